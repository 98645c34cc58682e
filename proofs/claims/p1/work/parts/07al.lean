set_option maxHeartbeats 4000000 in
set_option maxRecDepth 100000 in
theorem kx_X2_addPart_4 (l : Launch) (dC : Nat → ClassId) (dI : Nat → Nat → Nat) (h0 : Nat) (h1 : Nat) (h2 : Nat) (h3 : Nat) (k0 : ClassId) (k1 : ClassId) (sz : Nat) (f0 : Nat → Int32) (f0_t : sb_Fit f0) : Met l yX2_addPart wsX2_addPart ({ frames := 1, cells := 0, slots := 0, locals := 60 }) (va_Pc [.ref h2, .ref h0, .int 0, .int 3] (fun U => U.heap.size = sz ∧ va_P (dC, dI) vwCl [(h0, .inr (6, [.ref h1, .int 3])), (h1, .inl (k0, 64, .inl f0)), (h2, .inr (6, [.ref h3, .int 0])), (h3, .inl (k1, 64, .inl (fun _ => 0)))] U.heap ∧ va_K (dC, dI) vwCl [(k0, .byte), (k1, .byte)] U ∧ va_D (fun _ => True) [(h0, .inr (6, [.ref h1, .int 3])), (h1, .inl (k0, 64, .inl f0)), (h2, .inr (6, [.ref h3, .int 0])), (h3, .inl (k1, 64, .inl (fun _ => 0)))])) (va_Qv (fun _ : Unit => True) (fun (_ : Unit) (t : State) => ∃ f3 : Nat → Int32, sb_Fit f3 ∧ va_P (dC, dI) vwCl [(h0, .inr (6, [.ref h1, .int 3])), (h1, .inl (k0, 64, .inl f0)), (h2, .inr (6, [.ref h3, .int 3])), (h3, .inl (k1, 64, .inl f3))] t.heap ∧ va_K (dC, dI) vwCl [(k0, .byte), (k1, .byte)] t ∧ va_D (va_A [(h0, .inr (6, [.ref h1, .int 3])), (h1, .inl (k0, 64, .inl f0)), (h2, .inr (6, [.ref h3, .int 0])), (h3, .inl (k1, 64, .inl (fun _ => 0)))] sz) [(h0, .inr (6, [.ref h1, .int 3])), (h1, .inl (k0, 64, .inl f0)), (h2, .inr (6, [.ref h3, .int 3])), (h3, .inl (k1, 64, .inl f3))]) (va_A [(h0, .inr (6, [.ref h1, .int 3])), (h1, .inl (k0, 64, .inl f0)), (h2, .inr (6, [.ref h3, .int 0])), (h3, .inl (k1, 64, .inl (fun _ => 0)))] sz)) 0 0 (va_A [(h0, .inr (6, [.ref h1, .int 3])), (h1, .inl (k0, 64, .inl f0)), (h2, .inr (6, [.ref h3, .int 0])), (h3, .inl (k1, 64, .inl (fun _ => 0)))] sz) := by
  refine Met.ofW (cc := cX2_addPart) (maxL := 5) (ret := none) (by decide) rfl ?_
  intro p e s m args below meth c s₁ B hml hv
  obtain ⟨rfl, hsz, hP, hK, hD0⟩ := hv
  have hx := B.exec
  have hb := B.bytes
  have hr := B.returns
  have hts := atoms_spec (ws := wsX2_addPart) B.pre
  have hown : s.vm.findClass RX2 = some m.cls := findClass_of_methodNamed B.named
  have hlocks := B.notSynchronized
  subst hsz
  have hD := hD0.self (sz := s.heap.size)
  generalize hAe : va_A [(h0, .inr (6, [.ref h1, .int 3])), (h1, .inl (k0, 64, .inl f0)), (h2, .inr (6, [.ref h3, .int 0])), (h3, .inl (k1, 64, .inl (fun _ => 0)))] s.heap.size = A at hD ⊢
  have hA : ∀ q : Nat, s.heap.size ≤ q → A q := fun q h => by rw [← hAe]; exact Or.inr h
  have hS : va_S A s.heap s.heap [] := va_S.rf
  have hP : va_P (dC, dI) vwCl [(h0, .inr (6, [.ref h1, .int 3])), (h1, .inl (k0, 64, .inl f0)), (h2, .inr (6, [.ref h3, .int 0])), (h3, .inl (k1, 64, .inl (fun _ => 0)))] s.heap := hP
  have hl := lv_entry ([.ref h2, .ref h0, .int 0, .int 3]) (n := 5) (Nat.le_of_ble_eq_true rfl)
  rw [lg_entry_eq]
  generalize (lg_sl ([.ref h2, .ref h0, .int 0, .int 3]) ++ List.replicate (5 - (lg_sl ([.ref h2, .ref h0, .int 0, .int 3])).length) Slot.unset).toArray = ls at hl ⊢
  have hl : lv_has ls 5 [(0, .ref h2), (1, .ref h0), (2, .int 0), (3, .int 3)] := hl
  refine lv_iload_n hx hb dX2_addPart_0 rfl (lv_at hl 3 rfl) ?_
  refine lv_iload_n hx hb dX2_addPart_1 rfl (lv_at hl 2 rfl) ?_
  refine lv_isub hx hb dX2_addPart_2 ?_
  refine lv_topi (fun y1 ey1 => ?_)
  obtain rfl : y1 = 3 := ey1.trans (by decide)
  refine lv_istore (lv' := [(4, .int 3), (0, .ref h2), (1, .ref h0), (2, .int 0), (3, .int 3)]) hx hb dX2_addPart_3 hl (by decide) rfl (fun ls hl => ?_)
  refine lv_iload_n hx hb dX2_addPart_5 rfl (lv_at hl 3 rfl) ?_
  refine lv_if_lt (tgt := 34) hx hb dX2_addPart_6 (by decide) (fun c9 => absurd c9 (by decide)) (fun _ => ?_)
  refine lv_iload hx hb dX2_addPart_9 (lv_at hl 0 rfl) ?_
  refine lv_if_lt (tgt := 34) hx hb dX2_addPart_11 (by decide) (fun c9 => absurd c9 (by decide)) (fun _ => ?_)
  refine lv_iload_n hx hb dX2_addPart_14 rfl (lv_at hl 4 rfl) ?_
  refine lv_aload_n hx hb dX2_addPart_15 rfl (lv_at hl 2 rfl) ?_
  refine va_get (D := (dC, dI)) (ci := 6) (v := .int 3) (C := RX2) (T := TX2) (N := 2) hx hb hts (by decide +kernel) hown hK hP 0 rfl rfl 1 (by decide) (hts (.fieldLink RX2 15 "Rewriterope$Text" "length" "I") (by decide +kernel)) (fun _ h9 => h9) rfl dX2_addPart_16 ?_
  refine lv_icmp_gt (tgt := 34) hx hb dX2_addPart_19 (by decide) (fun c9 => absurd c9 (by decide)) (fun _ => ?_)
  refine lv_aload_n hx hb dX2_addPart_22 rfl (lv_at hl 1 rfl) ?_
  refine va_get (D := (dC, dI)) (ci := 6) (v := .int 0) (C := RX2) (T := TX2) (N := 2) hx hb hts (by decide +kernel) hown hK hP 2 rfl rfl 1 (by decide) (hts (.fieldLink RX2 15 "Rewriterope$Text" "length" "I") (by decide +kernel)) (fun _ h9 => h9) rfl dX2_addPart_23 ?_
  refine lv_iload hx hb dX2_addPart_26 (lv_at hl 0 rfl) ?_
  refine lv_iadd hx hb dX2_addPart_28 ?_
  refine lv_topi (fun y2 ey2 => ?_)
  obtain rfl : y2 = 3 := ey2.trans (by decide)
  refine lv_bipush (v := 64) hx hb dX2_addPart_29 (by decide) ?_
  refine lv_icmp_le (tgt := 35) hx hb dX2_addPart_31 (by decide) (fun _ => ?_) (fun c9 => absurd (by decide) c9)
  refine lv_aload_n hx hb dX2_addPart_35 rfl (lv_at hl 2 rfl) ?_
  refine va_get (D := (dC, dI)) (ci := 6) (v := .ref h1) (C := RX2) (T := TX2) (N := 2) hx hb hts (by decide +kernel) hown hK hP 0 rfl rfl 0 (by decide) (hts (.fieldLink RX2 11 "Rewriterope$Text" "letters" "[B") (by decide +kernel)) (fun _ h9 => h9) rfl dX2_addPart_36 ?_
  refine lv_iload_n hx hb dX2_addPart_39 rfl (lv_at hl 3 rfl) ?_
  refine lv_aload_n hx hb dX2_addPart_40 rfl (lv_at hl 1 rfl) ?_
  refine va_get (D := (dC, dI)) (ci := 6) (v := .ref h3) (C := RX2) (T := TX2) (N := 2) hx hb hts (by decide +kernel) hown hK hP 2 rfl rfl 0 (by decide) (hts (.fieldLink RX2 11 "Rewriterope$Text" "letters" "[B") (by decide +kernel)) (fun _ h9 => h9) rfl dX2_addPart_41 ?_
  refine lv_aload_n hx hb dX2_addPart_44 rfl (lv_at hl 1 rfl) ?_
  refine va_get (D := (dC, dI)) (ci := 6) (v := .int 0) (C := RX2) (T := TX2) (N := 2) hx hb hts (by decide +kernel) hown hK hP 2 rfl rfl 1 (by decide) (hts (.fieldLink RX2 15 "Rewriterope$Text" "length" "I") (by decide +kernel)) (fun _ h9 => h9) rfl dX2_addPart_45 ?_
  refine lv_iload hx hb dX2_addPart_48 (lv_at hl 0 rfl) ?_
  refine va_copyi (D := (dC, dI)) (sp := 0) (dp := 0) (n := 3) hx hb (by rw [hml]; exact hl.1.symm) hown (hts (.methodLink RX2 19 arraycopyName) (by decide +kernel)) (hts (.native arraycopyName) (by decide +kernel)) (hts (.static arraycopyName) (by decide +kernel)) (hts (.initialized "java/lang/System") (by decide +kernel)) hK hP hD hS 1 3 0 1 rfl rfl rfl rfl rfl (by decide) (by decide) (by decide) (by decide) (by decide) (fun i hi => f0_t _) (Nat.le_of_ble_eq_true rfl) (Nat.le_of_ble_eq_true rfl) dX2_addPart_50 (fun H locs hP hD hS => ?_)
  have hP : va_P (dC, dI) vwCl [(h0, .inr (6, [.ref h1, .int 3])), (h1, .inl (k0, 64, .inl f0)), (h2, .inr (6, [.ref h3, .int 0])), (h3, .inl (k1, 64, .inl (va_cpy f0 (fun _ => 0) (0 : Int32).toNatClampNeg (0 : Int32).toNatClampNeg (3 : Int32).toNatClampNeg)))] H := hP
  have hD : va_D A [(h0, .inr (6, [.ref h1, .int 3])), (h1, .inl (k0, 64, .inl f0)), (h2, .inr (6, [.ref h3, .int 0])), (h3, .inl (k1, 64, .inl (va_cpy f0 (fun _ => 0) (0 : Int32).toNatClampNeg (0 : Int32).toNatClampNeg (3 : Int32).toNatClampNeg)))] := hD
  obtain ⟨f3, hf3⟩ : ∃ f : Nat → Int32, f = va_cpy f0 (fun _ => 0) (0 : Int32).toNatClampNeg (0 : Int32).toNatClampNeg (3 : Int32).toNatClampNeg := ⟨_, rfl⟩
  have f3_t : sb_Fit f3 := by rw [hf3]; exact sb_fitC f0_t sb_fit0
  rw [← hf3] at hP hD
  refine lv_aload_n hx hb dX2_addPart_53 rfl (lv_at hl 1 rfl) ?_
  refine lv_dup hx hb dX2_addPart_54 rfl ?_
  refine va_get (D := (dC, dI)) (ci := 6) (v := .int 0) (C := RX2) (T := TX2) (N := 2) hx hb hts (by decide +kernel) hown hK hP 2 rfl rfl 1 (by decide) (hts (.fieldLink RX2 15 "Rewriterope$Text" "length" "I") (by decide +kernel)) (fun _ h9 => h9) rfl dX2_addPart_55 ?_
  refine lv_iload hx hb dX2_addPart_58 (lv_at hl 0 rfl) ?_
  refine lv_iadd hx hb dX2_addPart_60 ?_
  refine lv_topi (fun y4 ey4 => ?_)
  obtain rfl : y4 = 3 := ey4.trans (by decide)
  refine va_put (D := (dC, dI)) (ci := 6) (v := .int 3) (ty := .int) (C := RX2) (T := TX2) (N := 2) hx hb hts (by decide +kernel) tyX2 tyX2_ok nmX2 hown hK hP hD hS 2 rfl rfl 1 (by decide) (hts (.fieldLink RX2 15 "Rewriterope$Text" "length" "I") (by decide +kernel)) (fun _ h9 => h9) rfl (by decide +kernel) rfl rfl (Nat.le_of_ble_eq_true rfl) dX2_addPart_61 (fun H locs hP hD hS => ?_)
  have hP : va_P (dC, dI) vwCl [(h0, .inr (6, [.ref h1, .int 3])), (h1, .inl (k0, 64, .inl f0)), (h2, .inr (6, [.ref h3, .int 3])), (h3, .inl (k1, 64, .inl f3))] H := hP
  have hD : va_D A [(h0, .inr (6, [.ref h1, .int 3])), (h1, .inl (k0, 64, .inl f0)), (h2, .inr (6, [.ref h3, .int 3])), (h3, .inl (k1, 64, .inl f3))] := hD
  exact W.vret hx hb hr (fun t ht hW => ⟨⟨(), rfl, trivial, f3, f3_t, by rw [ht]; exact hP, va_K.moved hW.alike hK, hD⟩, hS.F ht⟩) hS.2.2 dX2_addPart_64
set_option maxHeartbeats 8000000 in
set_option maxRecDepth 100000 in
theorem kx_X3_type_h53 {l : Launch} {dC : Nat → ClassId} {dI : Nat → Nat → Nat} {h0 h1 h2 h3 h4 h5 h6 h7 h8 h9 h10 h11 z0 z1 z2 z3 : Nat} {k0 k1 k2 k3 k4 k5 : ClassId} {rp  R : Int32} {p : Program} {e : Env} {s : State} {m : MethodId} {args : Array Value} {below : List Frame} {meth : Method} {c : Code} {A : Nat → Prop} {H : Heap} {locs : List Loc} {ls : Array Slot} {f0 : Nat → Int32} (f0_t : sb_Fit f0) (hR : kz_ct 3 [] = R) (rp_l : (0 : Int) ≤ rp.toInt) (rp_u : rp.toInt ≤ (3 : Int)) (hx : p.tables.exec = Jvm.exec) (hb : c.code = cX3_type) (hr : meth.sig.returnType = some .int) (hml : c.maxLocals = 8) (hown : s.vm.findClass RX3 = some m.cls) (hts : ∀ w ∈ wsX3_type, w.before args s = true) (hlocks : meth.locks = false) (hA : ∀ q : Nat, s.heap.size ≤ q → A q) (hS : va_S A s.heap H locs) (hK : va_K (dC, dI) vwCl [(k0, .object "Rewriterope$Text"), (k1, .byte), (k2, .byte), (k3, .byte), (k4, .byte), (k5, .byte)] s) (hP : va_P (dC, dI) vwCl [(h0, .inr (7, [.ref h1, .ref z0, .ref z1, .ref h2, .ref z2, .ref z3, .int 0, .int 0, .int 0])), (h1, .inl (k0, 4, .inr (.inr (.inr (.inr (va_up (va_up (va_up (va_up (fun _ => none) 0 (some h4)) 1 (some h6)) 2 (some h8)) 3 (some h10))))))), (h2, .inr (6, [.ref h3, .int 3])), (h3, .inl (k1, 64, .inl f0)), (h4, .inr (6, [.ref h5, .int 0])), (h5, .inl (k2, 64, .inl (fun _ => 0))), (h6, .inr (6, [.ref h7, .int 0])), (h7, .inl (k3, 64, .inl (fun _ => 0))), (h8, .inr (6, [.ref h9, .int 0])), (h9, .inl (k4, 64, .inl (fun _ => 0))), (h10, .inr (6, [.ref h11, .int 0])), (h11, .inl (k5, 64, .inl (fun _ => 0)))] H) (hD : va_D A [(h0, .inr (7, [.ref h1, .ref z0, .ref z1, .ref h2, .ref z2, .ref z3, .int 0, .int 0, .int 0])), (h1, .inl (k0, 4, .inr (.inr (.inr (.inr (va_up (va_up (va_up (va_up (fun _ => none) 0 (some h4)) 1 (some h6)) 2 (some h8)) 3 (some h10))))))), (h2, .inr (6, [.ref h3, .int 3])), (h3, .inl (k1, 64, .inl f0)), (h4, .inr (6, [.ref h5, .int 0])), (h5, .inl (k2, 64, .inl (fun _ => 0))), (h6, .inr (6, [.ref h7, .int 0])), (h7, .inl (k3, 64, .inl (fun _ => 0))), (h8, .inr (6, [.ref h9, .int 0])), (h9, .inl (k4, 64, .inl (fun _ => 0))), (h10, .inr (6, [.ref h11, .int 0])), (h11, .inl (k5, 64, .inl (fun _ => 0)))]) (hl : lv_has ls 8 [(0, .ref h0), (1, .int rp)]) : W p l e (headSpec wsX3_type ({ frames := 2, cells := 0, slots := 0, locals := 84 })).room s m args below meth c H locs 0 0 (MQ below (va_Qi (fun (r : Int32) (_ : Unit) => r = R) (fun (_ : Unit) (t : State) => va_P (dC, dI) vwCl [(h0, .inr (7, [.ref h1, .ref z0, .ref z1, .ref h2, .ref z2, .ref z3, .int 0, .int 0, .int 0]))] t.heap ∧ va_K (dC, dI) vwCl [(k0, .object "Rewriterope$Text"), (k1, .byte), (k2, .byte), (k3, .byte), (k4, .byte), (k5, .byte)] t ∧ va_D A [(h0, .inr (7, [.ref h1, .ref z0, .ref z1, .ref h2, .ref z2, .ref z3, .int 0, .int 0, .int 0]))]) A) args s 0 0 A) (F0 m 77 ls []) := by
  have hR9 : (3 : Int32) = R := (show (3 : Int32) = kz_ct 3 [] from (kz_ct_e.trans (by decide)).symm).trans hR
  subst hR9
  rcases kz_r4 rp_l rp_u with rfl | rfl | rfl | rfl
  · refine lv_aload_n hx hb dX3_type_77 rfl (lv_at hl 0 rfl) ?_
    refine va_get (D := (dC, dI)) (ci := 7) (v := .ref h1) (C := RX3) (T := TX3) (N := 9) hx hb hts (by decide +kernel) hown hK hP 0 rfl rfl 0 (by decide) (hts (.fieldLink RX3 11 "Rewriterope" "ropes" "[LRewriterope$Text;") (by decide +kernel)) (fun _ h9 => h9) rfl dX3_type_78 ?_
    refine lv_iload_n hx hb dX3_type_81 rfl (lv_at hl 1 rfl) ?_
    refine va_aldq (D := (dC, dI)) hx hb hK hP 1 0 rfl rfl (by unfold vp_in; decide) dX3_type_82 ?_
    refine W.eq (g2 := F0 m 83 ls [.ref h4]) rfl ?_
    refine lv_astore (lv' := [(7, .ref h4), (0, .ref h0), (1, .int 0)]) hx hb dX3_type_83 hl (by decide) rfl (fun ls hl => ?_)
    refine lv_aload hx hb dX3_type_85 (lv_at hl 0 rfl) ?_
    refine va_get (D := (dC, dI)) (ci := 6) (v := .int 0) (C := RX2) (T := TX2) (N := 2) hx hb hts (by decide +kernel) hown hK hP 4 rfl rfl 1 (by decide) (hts (.fieldLink RX3 65 "Rewriterope$Text" "length" "I") (by decide +kernel)) (fun _ h9 => h9) rfl dX3_type_87 ?_
    refine lv_aload_n hx hb dX3_type_90 rfl (lv_at hl 1 rfl) ?_
    refine va_get (D := (dC, dI)) (ci := 7) (v := .ref h2) (C := RX3) (T := TX3) (N := 9) hx hb hts (by decide +kernel) hown hK hP 0 rfl rfl 3 (by decide) (hts (.fieldLink RX3 32 "Rewriterope" "work" "LRewriterope$Text;") (by decide +kernel)) (fun _ h9 => h9) rfl dX3_type_91 ?_
    refine va_get (D := (dC, dI)) (ci := 6) (v := .int 3) (C := RX2) (T := TX2) (N := 2) hx hb hts (by decide +kernel) hown hK hP 2 rfl rfl 1 (by decide) (hts (.fieldLink RX3 65 "Rewriterope$Text" "length" "I") (by decide +kernel)) (fun _ h9 => h9) rfl dX3_type_94 ?_
    refine lv_iadd hx hb dX3_type_97 ?_
    refine lv_topi (fun y101 ey101 => ?_)
    obtain rfl : y101 = 3 := ey101.trans (by decide)
    refine lv_bipush (v := 32) hx hb dX3_type_98 (by decide) ?_
    refine lv_icmp_le (tgt := 113) hx hb dX3_type_100 (by decide) (fun _ => ?_) (fun c9 => absurd (by decide) c9)
    refine lv_aload hx hb dX3_type_113 (lv_at hl 0 rfl) ?_
    refine lv_aload_n hx hb dX3_type_115 rfl (lv_at hl 1 rfl) ?_
    refine va_get (D := (dC, dI)) (ci := 7) (v := .ref h2) (C := RX3) (T := TX3) (N := 9) hx hb hts (by decide +kernel) hown hK hP 0 rfl rfl 3 (by decide) (hts (.fieldLink RX3 32 "Rewriterope" "work" "LRewriterope$Text;") (by decide +kernel)) (fun _ h9 => h9) rfl dX3_type_116 ?_
    refine lv_iconst (v := 0) hx hb dX3_type_119 (by decide) ?_
    refine lv_aload_n hx hb dX3_type_120 rfl (lv_at hl 1 rfl) ?_
    refine va_get (D := (dC, dI)) (ci := 7) (v := .ref h2) (C := RX3) (T := TX3) (N := 9) hx hb hts (by decide +kernel) hown hK hP 0 rfl rfl 3 (by decide) (hts (.fieldLink RX3 32 "Rewriterope" "work" "LRewriterope$Text;") (by decide +kernel)) (fun _ h9 => h9) rfl dX3_type_121 ?_
    refine va_get (D := (dC, dI)) (ci := 6) (v := .int 3) (C := RX2) (T := TX2) (N := 2) hx hb hts (by decide +kernel) hown hK hP 2 rfl rfl 1 (by decide) (hts (.fieldLink RX3 65 "Rewriterope$Text" "length" "I") (by decide +kernel)) (fun _ h9 => h9) rfl dX3_type_124 ?_
    have hPc := hP.sub (ws' := [(h2, .inr (6, [.ref h3, .int 3])), (h3, .inl (k1, 64, .inl f0)), (h4, .inr (6, [.ref h5, .int 0])), (h5, .inl (k2, 64, .inl (fun _ => 0)))]) [2, 3, 4, 5] rfl
    have hDc := hD.sub (ws' := [(h2, .inr (6, [.ref h3, .int 3])), (h3, .inl (k1, 64, .inl f0)), (h4, .inr (6, [.ref h5, .int 0])), (h5, .inl (k2, 64, .inl (fun _ => 0)))]) [2, 3, 4, 5] (by decide) rfl
    have hKc := hK.sub (tys' := [(k1, .byte), (k2, .byte)]) [1, 2] rfl
    have hFc := va_free (wc := [(h2, .inr (6, [.ref h3, .int 3])), (h3, .inl (k1, 64, .inl f0)), (h4, .inr (6, [.ref h5, .int 0])), (h5, .inl (k2, 64, .inl (fun _ => 0)))]) hD hS hA [2, 3, 4, 5] rfl
    refine va_callv (va_runV (As := [.ref h2, .int 0, .int 3]) (rest := []) ⟨hx, hb, hml, hown, hts⟩ (kx_X2_addPart_4 l dC dI h2 h3 h4 h5 k1 k2 H.size f0 f0_t) (cwV 3 hts gX3_type_X2_addPart rfl rfl rfl (by decide +kernel) ⟨Nat.le_of_ble_eq_true rfl, Nat.le_of_ble_eq_true rfl⟩) ⟨fun a U g mk q => by obtain ⟨q0, q1, qP, qK, qD⟩ := q; exact ⟨q0, q1, qP, va_K.moved (u := U) (U := U.calling g mk a) (Vm.Alike.refl U.vm) qK, qD⟩, va_recv hKc hPc (ci := 6) (q0 := 2) rfl rfl, fun U hU hW => ⟨rfl, by rw [hU], by rw [hU]; exact hPc, va_K.moved hW.alike hKc, hDc.weaken (fun _ _ _ _ => trivial)⟩⟩ rfl rfl hl.1 rfl (lv_room (Nat.le_of_ble_eq_true rfl)) dX3_type_127 ⟨Nat.le_of_ble_eq_true rfl, Nat.le_of_ble_eq_true rfl⟩) hS (fun q _ h => hFc q h) hFc (fun u t H1 locs ht hvm hw hB hz1 hk1 hS => ?_)
    obtain ⟨f102, f102_t, hP1, hK1, hD1⟩ := hB
    rw [ht] at hP1
    have hK1 := va_K.moved hvm.symm hK1
    obtain ⟨hP, hD⟩ := va_join (wr := [(h0, .inr (7, [.ref h1, .ref z0, .ref z1, .ref h2, .ref z2, .ref z3, .int 0, .int 0, .int 0])), (h1, .inl (k0, 4, .inr (.inr (.inr (.inr (va_up (va_up (va_up (va_up (fun _ => none) 0 (some h4)) 1 (some h6)) 2 (some h8)) 3 (some h10))))))), (h6, .inr (6, [.ref h7, .int 0])), (h7, .inl (k3, 64, .inl (fun _ => 0))), (h8, .inr (6, [.ref h9, .int 0])), (h9, .inl (k4, 64, .inl (fun _ => 0))), (h10, .inr (6, [.ref h11, .int 0])), (h11, .inl (k5, 64, .inl (fun _ => 0)))]) (w1 := [(h2, .inr (6, [.ref h3, .int 3])), (h3, .inl (k1, 64, .inl f0)), (h4, .inr (6, [.ref h5, .int 3])), (h5, .inl (k2, 64, .inl f102))]) hP hD [2, 3, 4, 5] [0, 1, 6, 7, 8, 9, 10, 11] rfl rfl (by decide) (by decide) hk1 hFc hP1 hD1
    generalize H1 = H at hP hS ⊢
    have hP : va_P (dC, dI) vwCl [(h0, .inr (7, [.ref h1, .ref z0, .ref z1, .ref h2, .ref z2, .ref z3, .int 0, .int 0, .int 0])), (h1, .inl (k0, 4, .inr (.inr (.inr (.inr (va_up (va_up (va_up (va_up (fun _ => none) 0 (some h4)) 1 (some h6)) 2 (some h8)) 3 (some h10))))))), (h6, .inr (6, [.ref h7, .int 0])), (h7, .inl (k3, 64, .inl (fun _ => 0))), (h8, .inr (6, [.ref h9, .int 0])), (h9, .inl (k4, 64, .inl (fun _ => 0))), (h10, .inr (6, [.ref h11, .int 0])), (h11, .inl (k5, 64, .inl (fun _ => 0))), (h2, .inr (6, [.ref h3, .int 3])), (h3, .inl (k1, 64, .inl f0)), (h4, .inr (6, [.ref h5, .int 3])), (h5, .inl (k2, 64, .inl f102))] H := hP
    have hD : va_D A [(h0, .inr (7, [.ref h1, .ref z0, .ref z1, .ref h2, .ref z2, .ref z3, .int 0, .int 0, .int 0])), (h1, .inl (k0, 4, .inr (.inr (.inr (.inr (va_up (va_up (va_up (va_up (fun _ => none) 0 (some h4)) 1 (some h6)) 2 (some h8)) 3 (some h10))))))), (h6, .inr (6, [.ref h7, .int 0])), (h7, .inl (k3, 64, .inl (fun _ => 0))), (h8, .inr (6, [.ref h9, .int 0])), (h9, .inl (k4, 64, .inl (fun _ => 0))), (h10, .inr (6, [.ref h11, .int 0])), (h11, .inl (k5, 64, .inl (fun _ => 0))), (h2, .inr (6, [.ref h3, .int 3])), (h3, .inl (k1, 64, .inl f0)), (h4, .inr (6, [.ref h5, .int 3])), (h5, .inl (k2, 64, .inl f102))] := hD
    refine lv_aload hx hb dX3_type_130 (lv_at hl 0 rfl) ?_
    refine va_get (D := (dC, dI)) (ci := 6) (v := .int 3) (C := RX2) (T := TX2) (N := 2) hx hb hts (by decide +kernel) hown hK hP 10 rfl rfl 1 (by decide) (hts (.fieldLink RX3 65 "Rewriterope$Text" "length" "I") (by decide +kernel)) (fun _ h9 => h9) rfl dX3_type_132 ?_
    refine W.widen (k := 0) (n := 0) (Nat.le_of_ble_eq_true rfl) (Nat.le_of_ble_eq_true rfl) ?_
    have hK := hK.sub (tys' := [(k0, .object "Rewriterope$Text"), (k1, .byte), (k2, .byte), (k3, .byte), (k4, .byte), (k5, .byte)]) [0, 1, 2, 3, 4, 5] rfl
    have hP := hP.sub (ws' := [(h0, .inr (7, [.ref h1, .ref z0, .ref z1, .ref h2, .ref z2, .ref z3, .int 0, .int 0, .int 0]))]) [0] rfl
    have hD := hD.sub (ws' := [(h0, .inr (7, [.ref h1, .ref z0, .ref z1, .ref h2, .ref z2, .ref z3, .int 0, .int 0, .int 0]))]) [0] (by decide) rfl
    exact W.iret (v := 3) hx hb hr (fun t ht hW => ⟨⟨3, (), rfl, rfl, by rw [ht]; exact hP, va_K.moved hW.alike hK, hD⟩, hS.F ht⟩) hS.2.2 dX3_type_135
  · refine lv_aload_n hx hb dX3_type_77 rfl (lv_at hl 0 rfl) ?_
    refine va_get (D := (dC, dI)) (ci := 7) (v := .ref h1) (C := RX3) (T := TX3) (N := 9) hx hb hts (by decide +kernel) hown hK hP 0 rfl rfl 0 (by decide) (hts (.fieldLink RX3 11 "Rewriterope" "ropes" "[LRewriterope$Text;") (by decide +kernel)) (fun _ h9 => h9) rfl dX3_type_78 ?_
    refine lv_iload_n hx hb dX3_type_81 rfl (lv_at hl 1 rfl) ?_
    refine va_aldq (D := (dC, dI)) hx hb hK hP 1 0 rfl rfl (by unfold vp_in; decide) dX3_type_82 ?_
    refine W.eq (g2 := F0 m 83 ls [.ref h6]) rfl ?_
    refine lv_astore (lv' := [(7, .ref h6), (0, .ref h0), (1, .int 1)]) hx hb dX3_type_83 hl (by decide) rfl (fun ls hl => ?_)
    refine lv_aload hx hb dX3_type_85 (lv_at hl 0 rfl) ?_
    refine va_get (D := (dC, dI)) (ci := 6) (v := .int 0) (C := RX2) (T := TX2) (N := 2) hx hb hts (by decide +kernel) hown hK hP 6 rfl rfl 1 (by decide) (hts (.fieldLink RX3 65 "Rewriterope$Text" "length" "I") (by decide +kernel)) (fun _ h9 => h9) rfl dX3_type_87 ?_
    refine lv_aload_n hx hb dX3_type_90 rfl (lv_at hl 1 rfl) ?_
    refine va_get (D := (dC, dI)) (ci := 7) (v := .ref h2) (C := RX3) (T := TX3) (N := 9) hx hb hts (by decide +kernel) hown hK hP 0 rfl rfl 3 (by decide) (hts (.fieldLink RX3 32 "Rewriterope" "work" "LRewriterope$Text;") (by decide +kernel)) (fun _ h9 => h9) rfl dX3_type_91 ?_
    refine va_get (D := (dC, dI)) (ci := 6) (v := .int 3) (C := RX2) (T := TX2) (N := 2) hx hb hts (by decide +kernel) hown hK hP 2 rfl rfl 1 (by decide) (hts (.fieldLink RX3 65 "Rewriterope$Text" "length" "I") (by decide +kernel)) (fun _ h9 => h9) rfl dX3_type_94 ?_
    refine lv_iadd hx hb dX3_type_97 ?_
    refine lv_topi (fun y101 ey101 => ?_)
    obtain rfl : y101 = 3 := ey101.trans (by decide)
    refine lv_bipush (v := 32) hx hb dX3_type_98 (by decide) ?_
    refine lv_icmp_le (tgt := 113) hx hb dX3_type_100 (by decide) (fun _ => ?_) (fun c9 => absurd (by decide) c9)
    refine lv_aload hx hb dX3_type_113 (lv_at hl 0 rfl) ?_
    refine lv_aload_n hx hb dX3_type_115 rfl (lv_at hl 1 rfl) ?_
    refine va_get (D := (dC, dI)) (ci := 7) (v := .ref h2) (C := RX3) (T := TX3) (N := 9) hx hb hts (by decide +kernel) hown hK hP 0 rfl rfl 3 (by decide) (hts (.fieldLink RX3 32 "Rewriterope" "work" "LRewriterope$Text;") (by decide +kernel)) (fun _ h9 => h9) rfl dX3_type_116 ?_
    refine lv_iconst (v := 0) hx hb dX3_type_119 (by decide) ?_
    refine lv_aload_n hx hb dX3_type_120 rfl (lv_at hl 1 rfl) ?_
    refine va_get (D := (dC, dI)) (ci := 7) (v := .ref h2) (C := RX3) (T := TX3) (N := 9) hx hb hts (by decide +kernel) hown hK hP 0 rfl rfl 3 (by decide) (hts (.fieldLink RX3 32 "Rewriterope" "work" "LRewriterope$Text;") (by decide +kernel)) (fun _ h9 => h9) rfl dX3_type_121 ?_
    refine va_get (D := (dC, dI)) (ci := 6) (v := .int 3) (C := RX2) (T := TX2) (N := 2) hx hb hts (by decide +kernel) hown hK hP 2 rfl rfl 1 (by decide) (hts (.fieldLink RX3 65 "Rewriterope$Text" "length" "I") (by decide +kernel)) (fun _ h9 => h9) rfl dX3_type_124 ?_
    have hPc := hP.sub (ws' := [(h2, .inr (6, [.ref h3, .int 3])), (h3, .inl (k1, 64, .inl f0)), (h6, .inr (6, [.ref h7, .int 0])), (h7, .inl (k3, 64, .inl (fun _ => 0)))]) [2, 3, 6, 7] rfl
    have hDc := hD.sub (ws' := [(h2, .inr (6, [.ref h3, .int 3])), (h3, .inl (k1, 64, .inl f0)), (h6, .inr (6, [.ref h7, .int 0])), (h7, .inl (k3, 64, .inl (fun _ => 0)))]) [2, 3, 6, 7] (by decide) rfl
    have hKc := hK.sub (tys' := [(k1, .byte), (k3, .byte)]) [1, 3] rfl
    have hFc := va_free (wc := [(h2, .inr (6, [.ref h3, .int 3])), (h3, .inl (k1, 64, .inl f0)), (h6, .inr (6, [.ref h7, .int 0])), (h7, .inl (k3, 64, .inl (fun _ => 0)))]) hD hS hA [2, 3, 6, 7] rfl
    refine va_callv (va_runV (As := [.ref h2, .int 0, .int 3]) (rest := []) ⟨hx, hb, hml, hown, hts⟩ (kx_X2_addPart_4 l dC dI h2 h3 h6 h7 k1 k3 H.size f0 f0_t) (cwV 3 hts gX3_type_X2_addPart rfl rfl rfl (by decide +kernel) ⟨Nat.le_of_ble_eq_true rfl, Nat.le_of_ble_eq_true rfl⟩) ⟨fun a U g mk q => by obtain ⟨q0, q1, qP, qK, qD⟩ := q; exact ⟨q0, q1, qP, va_K.moved (u := U) (U := U.calling g mk a) (Vm.Alike.refl U.vm) qK, qD⟩, va_recv hKc hPc (ci := 6) (q0 := 2) rfl rfl, fun U hU hW => ⟨rfl, by rw [hU], by rw [hU]; exact hPc, va_K.moved hW.alike hKc, hDc.weaken (fun _ _ _ _ => trivial)⟩⟩ rfl rfl hl.1 rfl (lv_room (Nat.le_of_ble_eq_true rfl)) dX3_type_127 ⟨Nat.le_of_ble_eq_true rfl, Nat.le_of_ble_eq_true rfl⟩) hS (fun q _ h => hFc q h) hFc (fun u t H1 locs ht hvm hw hB hz1 hk1 hS => ?_)
    obtain ⟨f102, f102_t, hP1, hK1, hD1⟩ := hB
    rw [ht] at hP1
    have hK1 := va_K.moved hvm.symm hK1
    obtain ⟨hP, hD⟩ := va_join (wr := [(h0, .inr (7, [.ref h1, .ref z0, .ref z1, .ref h2, .ref z2, .ref z3, .int 0, .int 0, .int 0])), (h1, .inl (k0, 4, .inr (.inr (.inr (.inr (va_up (va_up (va_up (va_up (fun _ => none) 0 (some h4)) 1 (some h6)) 2 (some h8)) 3 (some h10))))))), (h4, .inr (6, [.ref h5, .int 0])), (h5, .inl (k2, 64, .inl (fun _ => 0))), (h8, .inr (6, [.ref h9, .int 0])), (h9, .inl (k4, 64, .inl (fun _ => 0))), (h10, .inr (6, [.ref h11, .int 0])), (h11, .inl (k5, 64, .inl (fun _ => 0)))]) (w1 := [(h2, .inr (6, [.ref h3, .int 3])), (h3, .inl (k1, 64, .inl f0)), (h6, .inr (6, [.ref h7, .int 3])), (h7, .inl (k3, 64, .inl f102))]) hP hD [2, 3, 6, 7] [0, 1, 4, 5, 8, 9, 10, 11] rfl rfl (by decide) (by decide) hk1 hFc hP1 hD1
    generalize H1 = H at hP hS ⊢
    have hP : va_P (dC, dI) vwCl [(h0, .inr (7, [.ref h1, .ref z0, .ref z1, .ref h2, .ref z2, .ref z3, .int 0, .int 0, .int 0])), (h1, .inl (k0, 4, .inr (.inr (.inr (.inr (va_up (va_up (va_up (va_up (fun _ => none) 0 (some h4)) 1 (some h6)) 2 (some h8)) 3 (some h10))))))), (h4, .inr (6, [.ref h5, .int 0])), (h5, .inl (k2, 64, .inl (fun _ => 0))), (h8, .inr (6, [.ref h9, .int 0])), (h9, .inl (k4, 64, .inl (fun _ => 0))), (h10, .inr (6, [.ref h11, .int 0])), (h11, .inl (k5, 64, .inl (fun _ => 0))), (h2, .inr (6, [.ref h3, .int 3])), (h3, .inl (k1, 64, .inl f0)), (h6, .inr (6, [.ref h7, .int 3])), (h7, .inl (k3, 64, .inl f102))] H := hP
    have hD : va_D A [(h0, .inr (7, [.ref h1, .ref z0, .ref z1, .ref h2, .ref z2, .ref z3, .int 0, .int 0, .int 0])), (h1, .inl (k0, 4, .inr (.inr (.inr (.inr (va_up (va_up (va_up (va_up (fun _ => none) 0 (some h4)) 1 (some h6)) 2 (some h8)) 3 (some h10))))))), (h4, .inr (6, [.ref h5, .int 0])), (h5, .inl (k2, 64, .inl (fun _ => 0))), (h8, .inr (6, [.ref h9, .int 0])), (h9, .inl (k4, 64, .inl (fun _ => 0))), (h10, .inr (6, [.ref h11, .int 0])), (h11, .inl (k5, 64, .inl (fun _ => 0))), (h2, .inr (6, [.ref h3, .int 3])), (h3, .inl (k1, 64, .inl f0)), (h6, .inr (6, [.ref h7, .int 3])), (h7, .inl (k3, 64, .inl f102))] := hD
    refine lv_aload hx hb dX3_type_130 (lv_at hl 0 rfl) ?_
    refine va_get (D := (dC, dI)) (ci := 6) (v := .int 3) (C := RX2) (T := TX2) (N := 2) hx hb hts (by decide +kernel) hown hK hP 10 rfl rfl 1 (by decide) (hts (.fieldLink RX3 65 "Rewriterope$Text" "length" "I") (by decide +kernel)) (fun _ h9 => h9) rfl dX3_type_132 ?_
    refine W.widen (k := 0) (n := 0) (Nat.le_of_ble_eq_true rfl) (Nat.le_of_ble_eq_true rfl) ?_
    have hK := hK.sub (tys' := [(k0, .object "Rewriterope$Text"), (k1, .byte), (k2, .byte), (k3, .byte), (k4, .byte), (k5, .byte)]) [0, 1, 2, 3, 4, 5] rfl
    have hP := hP.sub (ws' := [(h0, .inr (7, [.ref h1, .ref z0, .ref z1, .ref h2, .ref z2, .ref z3, .int 0, .int 0, .int 0]))]) [0] rfl
    have hD := hD.sub (ws' := [(h0, .inr (7, [.ref h1, .ref z0, .ref z1, .ref h2, .ref z2, .ref z3, .int 0, .int 0, .int 0]))]) [0] (by decide) rfl
    exact W.iret (v := 3) hx hb hr (fun t ht hW => ⟨⟨3, (), rfl, rfl, by rw [ht]; exact hP, va_K.moved hW.alike hK, hD⟩, hS.F ht⟩) hS.2.2 dX3_type_135
  · refine lv_aload_n hx hb dX3_type_77 rfl (lv_at hl 0 rfl) ?_
    refine va_get (D := (dC, dI)) (ci := 7) (v := .ref h1) (C := RX3) (T := TX3) (N := 9) hx hb hts (by decide +kernel) hown hK hP 0 rfl rfl 0 (by decide) (hts (.fieldLink RX3 11 "Rewriterope" "ropes" "[LRewriterope$Text;") (by decide +kernel)) (fun _ h9 => h9) rfl dX3_type_78 ?_
    refine lv_iload_n hx hb dX3_type_81 rfl (lv_at hl 1 rfl) ?_
    refine va_aldq (D := (dC, dI)) hx hb hK hP 1 0 rfl rfl (by unfold vp_in; decide) dX3_type_82 ?_
    refine W.eq (g2 := F0 m 83 ls [.ref h8]) rfl ?_
    refine lv_astore (lv' := [(7, .ref h8), (0, .ref h0), (1, .int 2)]) hx hb dX3_type_83 hl (by decide) rfl (fun ls hl => ?_)
    refine lv_aload hx hb dX3_type_85 (lv_at hl 0 rfl) ?_
    refine va_get (D := (dC, dI)) (ci := 6) (v := .int 0) (C := RX2) (T := TX2) (N := 2) hx hb hts (by decide +kernel) hown hK hP 8 rfl rfl 1 (by decide) (hts (.fieldLink RX3 65 "Rewriterope$Text" "length" "I") (by decide +kernel)) (fun _ h9 => h9) rfl dX3_type_87 ?_
    refine lv_aload_n hx hb dX3_type_90 rfl (lv_at hl 1 rfl) ?_
    refine va_get (D := (dC, dI)) (ci := 7) (v := .ref h2) (C := RX3) (T := TX3) (N := 9) hx hb hts (by decide +kernel) hown hK hP 0 rfl rfl 3 (by decide) (hts (.fieldLink RX3 32 "Rewriterope" "work" "LRewriterope$Text;") (by decide +kernel)) (fun _ h9 => h9) rfl dX3_type_91 ?_
    refine va_get (D := (dC, dI)) (ci := 6) (v := .int 3) (C := RX2) (T := TX2) (N := 2) hx hb hts (by decide +kernel) hown hK hP 2 rfl rfl 1 (by decide) (hts (.fieldLink RX3 65 "Rewriterope$Text" "length" "I") (by decide +kernel)) (fun _ h9 => h9) rfl dX3_type_94 ?_
    refine lv_iadd hx hb dX3_type_97 ?_
    refine lv_topi (fun y101 ey101 => ?_)
    obtain rfl : y101 = 3 := ey101.trans (by decide)
    refine lv_bipush (v := 32) hx hb dX3_type_98 (by decide) ?_
    refine lv_icmp_le (tgt := 113) hx hb dX3_type_100 (by decide) (fun _ => ?_) (fun c9 => absurd (by decide) c9)
    refine lv_aload hx hb dX3_type_113 (lv_at hl 0 rfl) ?_
    refine lv_aload_n hx hb dX3_type_115 rfl (lv_at hl 1 rfl) ?_
    refine va_get (D := (dC, dI)) (ci := 7) (v := .ref h2) (C := RX3) (T := TX3) (N := 9) hx hb hts (by decide +kernel) hown hK hP 0 rfl rfl 3 (by decide) (hts (.fieldLink RX3 32 "Rewriterope" "work" "LRewriterope$Text;") (by decide +kernel)) (fun _ h9 => h9) rfl dX3_type_116 ?_
    refine lv_iconst (v := 0) hx hb dX3_type_119 (by decide) ?_
    refine lv_aload_n hx hb dX3_type_120 rfl (lv_at hl 1 rfl) ?_
    refine va_get (D := (dC, dI)) (ci := 7) (v := .ref h2) (C := RX3) (T := TX3) (N := 9) hx hb hts (by decide +kernel) hown hK hP 0 rfl rfl 3 (by decide) (hts (.fieldLink RX3 32 "Rewriterope" "work" "LRewriterope$Text;") (by decide +kernel)) (fun _ h9 => h9) rfl dX3_type_121 ?_
    refine va_get (D := (dC, dI)) (ci := 6) (v := .int 3) (C := RX2) (T := TX2) (N := 2) hx hb hts (by decide +kernel) hown hK hP 2 rfl rfl 1 (by decide) (hts (.fieldLink RX3 65 "Rewriterope$Text" "length" "I") (by decide +kernel)) (fun _ h9 => h9) rfl dX3_type_124 ?_
    have hPc := hP.sub (ws' := [(h2, .inr (6, [.ref h3, .int 3])), (h3, .inl (k1, 64, .inl f0)), (h8, .inr (6, [.ref h9, .int 0])), (h9, .inl (k4, 64, .inl (fun _ => 0)))]) [2, 3, 8, 9] rfl
    have hDc := hD.sub (ws' := [(h2, .inr (6, [.ref h3, .int 3])), (h3, .inl (k1, 64, .inl f0)), (h8, .inr (6, [.ref h9, .int 0])), (h9, .inl (k4, 64, .inl (fun _ => 0)))]) [2, 3, 8, 9] (by decide) rfl
    have hKc := hK.sub (tys' := [(k1, .byte), (k4, .byte)]) [1, 4] rfl
    have hFc := va_free (wc := [(h2, .inr (6, [.ref h3, .int 3])), (h3, .inl (k1, 64, .inl f0)), (h8, .inr (6, [.ref h9, .int 0])), (h9, .inl (k4, 64, .inl (fun _ => 0)))]) hD hS hA [2, 3, 8, 9] rfl
    refine va_callv (va_runV (As := [.ref h2, .int 0, .int 3]) (rest := []) ⟨hx, hb, hml, hown, hts⟩ (kx_X2_addPart_4 l dC dI h2 h3 h8 h9 k1 k4 H.size f0 f0_t) (cwV 3 hts gX3_type_X2_addPart rfl rfl rfl (by decide +kernel) ⟨Nat.le_of_ble_eq_true rfl, Nat.le_of_ble_eq_true rfl⟩) ⟨fun a U g mk q => by obtain ⟨q0, q1, qP, qK, qD⟩ := q; exact ⟨q0, q1, qP, va_K.moved (u := U) (U := U.calling g mk a) (Vm.Alike.refl U.vm) qK, qD⟩, va_recv hKc hPc (ci := 6) (q0 := 2) rfl rfl, fun U hU hW => ⟨rfl, by rw [hU], by rw [hU]; exact hPc, va_K.moved hW.alike hKc, hDc.weaken (fun _ _ _ _ => trivial)⟩⟩ rfl rfl hl.1 rfl (lv_room (Nat.le_of_ble_eq_true rfl)) dX3_type_127 ⟨Nat.le_of_ble_eq_true rfl, Nat.le_of_ble_eq_true rfl⟩) hS (fun q _ h => hFc q h) hFc (fun u t H1 locs ht hvm hw hB hz1 hk1 hS => ?_)
    obtain ⟨f102, f102_t, hP1, hK1, hD1⟩ := hB
    rw [ht] at hP1
    have hK1 := va_K.moved hvm.symm hK1
    obtain ⟨hP, hD⟩ := va_join (wr := [(h0, .inr (7, [.ref h1, .ref z0, .ref z1, .ref h2, .ref z2, .ref z3, .int 0, .int 0, .int 0])), (h1, .inl (k0, 4, .inr (.inr (.inr (.inr (va_up (va_up (va_up (va_up (fun _ => none) 0 (some h4)) 1 (some h6)) 2 (some h8)) 3 (some h10))))))), (h4, .inr (6, [.ref h5, .int 0])), (h5, .inl (k2, 64, .inl (fun _ => 0))), (h6, .inr (6, [.ref h7, .int 0])), (h7, .inl (k3, 64, .inl (fun _ => 0))), (h10, .inr (6, [.ref h11, .int 0])), (h11, .inl (k5, 64, .inl (fun _ => 0)))]) (w1 := [(h2, .inr (6, [.ref h3, .int 3])), (h3, .inl (k1, 64, .inl f0)), (h8, .inr (6, [.ref h9, .int 3])), (h9, .inl (k4, 64, .inl f102))]) hP hD [2, 3, 8, 9] [0, 1, 4, 5, 6, 7, 10, 11] rfl rfl (by decide) (by decide) hk1 hFc hP1 hD1
    generalize H1 = H at hP hS ⊢
    have hP : va_P (dC, dI) vwCl [(h0, .inr (7, [.ref h1, .ref z0, .ref z1, .ref h2, .ref z2, .ref z3, .int 0, .int 0, .int 0])), (h1, .inl (k0, 4, .inr (.inr (.inr (.inr (va_up (va_up (va_up (va_up (fun _ => none) 0 (some h4)) 1 (some h6)) 2 (some h8)) 3 (some h10))))))), (h4, .inr (6, [.ref h5, .int 0])), (h5, .inl (k2, 64, .inl (fun _ => 0))), (h6, .inr (6, [.ref h7, .int 0])), (h7, .inl (k3, 64, .inl (fun _ => 0))), (h10, .inr (6, [.ref h11, .int 0])), (h11, .inl (k5, 64, .inl (fun _ => 0))), (h2, .inr (6, [.ref h3, .int 3])), (h3, .inl (k1, 64, .inl f0)), (h8, .inr (6, [.ref h9, .int 3])), (h9, .inl (k4, 64, .inl f102))] H := hP
    have hD : va_D A [(h0, .inr (7, [.ref h1, .ref z0, .ref z1, .ref h2, .ref z2, .ref z3, .int 0, .int 0, .int 0])), (h1, .inl (k0, 4, .inr (.inr (.inr (.inr (va_up (va_up (va_up (va_up (fun _ => none) 0 (some h4)) 1 (some h6)) 2 (some h8)) 3 (some h10))))))), (h4, .inr (6, [.ref h5, .int 0])), (h5, .inl (k2, 64, .inl (fun _ => 0))), (h6, .inr (6, [.ref h7, .int 0])), (h7, .inl (k3, 64, .inl (fun _ => 0))), (h10, .inr (6, [.ref h11, .int 0])), (h11, .inl (k5, 64, .inl (fun _ => 0))), (h2, .inr (6, [.ref h3, .int 3])), (h3, .inl (k1, 64, .inl f0)), (h8, .inr (6, [.ref h9, .int 3])), (h9, .inl (k4, 64, .inl f102))] := hD
    refine lv_aload hx hb dX3_type_130 (lv_at hl 0 rfl) ?_
    refine va_get (D := (dC, dI)) (ci := 6) (v := .int 3) (C := RX2) (T := TX2) (N := 2) hx hb hts (by decide +kernel) hown hK hP 10 rfl rfl 1 (by decide) (hts (.fieldLink RX3 65 "Rewriterope$Text" "length" "I") (by decide +kernel)) (fun _ h9 => h9) rfl dX3_type_132 ?_
    refine W.widen (k := 0) (n := 0) (Nat.le_of_ble_eq_true rfl) (Nat.le_of_ble_eq_true rfl) ?_
    have hK := hK.sub (tys' := [(k0, .object "Rewriterope$Text"), (k1, .byte), (k2, .byte), (k3, .byte), (k4, .byte), (k5, .byte)]) [0, 1, 2, 3, 4, 5] rfl
    have hP := hP.sub (ws' := [(h0, .inr (7, [.ref h1, .ref z0, .ref z1, .ref h2, .ref z2, .ref z3, .int 0, .int 0, .int 0]))]) [0] rfl
    have hD := hD.sub (ws' := [(h0, .inr (7, [.ref h1, .ref z0, .ref z1, .ref h2, .ref z2, .ref z3, .int 0, .int 0, .int 0]))]) [0] (by decide) rfl
    exact W.iret (v := 3) hx hb hr (fun t ht hW => ⟨⟨3, (), rfl, rfl, by rw [ht]; exact hP, va_K.moved hW.alike hK, hD⟩, hS.F ht⟩) hS.2.2 dX3_type_135
  · refine lv_aload_n hx hb dX3_type_77 rfl (lv_at hl 0 rfl) ?_
    refine va_get (D := (dC, dI)) (ci := 7) (v := .ref h1) (C := RX3) (T := TX3) (N := 9) hx hb hts (by decide +kernel) hown hK hP 0 rfl rfl 0 (by decide) (hts (.fieldLink RX3 11 "Rewriterope" "ropes" "[LRewriterope$Text;") (by decide +kernel)) (fun _ h9 => h9) rfl dX3_type_78 ?_
    refine lv_iload_n hx hb dX3_type_81 rfl (lv_at hl 1 rfl) ?_
    refine va_aldq (D := (dC, dI)) hx hb hK hP 1 0 rfl rfl (by unfold vp_in; decide) dX3_type_82 ?_
    refine W.eq (g2 := F0 m 83 ls [.ref h10]) rfl ?_
    refine lv_astore (lv' := [(7, .ref h10), (0, .ref h0), (1, .int 3)]) hx hb dX3_type_83 hl (by decide) rfl (fun ls hl => ?_)
    refine lv_aload hx hb dX3_type_85 (lv_at hl 0 rfl) ?_
    refine va_get (D := (dC, dI)) (ci := 6) (v := .int 0) (C := RX2) (T := TX2) (N := 2) hx hb hts (by decide +kernel) hown hK hP 10 rfl rfl 1 (by decide) (hts (.fieldLink RX3 65 "Rewriterope$Text" "length" "I") (by decide +kernel)) (fun _ h9 => h9) rfl dX3_type_87 ?_
    refine lv_aload_n hx hb dX3_type_90 rfl (lv_at hl 1 rfl) ?_
    refine va_get (D := (dC, dI)) (ci := 7) (v := .ref h2) (C := RX3) (T := TX3) (N := 9) hx hb hts (by decide +kernel) hown hK hP 0 rfl rfl 3 (by decide) (hts (.fieldLink RX3 32 "Rewriterope" "work" "LRewriterope$Text;") (by decide +kernel)) (fun _ h9 => h9) rfl dX3_type_91 ?_
    refine va_get (D := (dC, dI)) (ci := 6) (v := .int 3) (C := RX2) (T := TX2) (N := 2) hx hb hts (by decide +kernel) hown hK hP 2 rfl rfl 1 (by decide) (hts (.fieldLink RX3 65 "Rewriterope$Text" "length" "I") (by decide +kernel)) (fun _ h9 => h9) rfl dX3_type_94 ?_
    refine lv_iadd hx hb dX3_type_97 ?_
    refine lv_topi (fun y101 ey101 => ?_)
    obtain rfl : y101 = 3 := ey101.trans (by decide)
    refine lv_bipush (v := 32) hx hb dX3_type_98 (by decide) ?_
    refine lv_icmp_le (tgt := 113) hx hb dX3_type_100 (by decide) (fun _ => ?_) (fun c9 => absurd (by decide) c9)
    refine lv_aload hx hb dX3_type_113 (lv_at hl 0 rfl) ?_
    refine lv_aload_n hx hb dX3_type_115 rfl (lv_at hl 1 rfl) ?_
    refine va_get (D := (dC, dI)) (ci := 7) (v := .ref h2) (C := RX3) (T := TX3) (N := 9) hx hb hts (by decide +kernel) hown hK hP 0 rfl rfl 3 (by decide) (hts (.fieldLink RX3 32 "Rewriterope" "work" "LRewriterope$Text;") (by decide +kernel)) (fun _ h9 => h9) rfl dX3_type_116 ?_
    refine lv_iconst (v := 0) hx hb dX3_type_119 (by decide) ?_
    refine lv_aload_n hx hb dX3_type_120 rfl (lv_at hl 1 rfl) ?_
    refine va_get (D := (dC, dI)) (ci := 7) (v := .ref h2) (C := RX3) (T := TX3) (N := 9) hx hb hts (by decide +kernel) hown hK hP 0 rfl rfl 3 (by decide) (hts (.fieldLink RX3 32 "Rewriterope" "work" "LRewriterope$Text;") (by decide +kernel)) (fun _ h9 => h9) rfl dX3_type_121 ?_
    refine va_get (D := (dC, dI)) (ci := 6) (v := .int 3) (C := RX2) (T := TX2) (N := 2) hx hb hts (by decide +kernel) hown hK hP 2 rfl rfl 1 (by decide) (hts (.fieldLink RX3 65 "Rewriterope$Text" "length" "I") (by decide +kernel)) (fun _ h9 => h9) rfl dX3_type_124 ?_
    have hPc := hP.sub (ws' := [(h2, .inr (6, [.ref h3, .int 3])), (h3, .inl (k1, 64, .inl f0)), (h10, .inr (6, [.ref h11, .int 0])), (h11, .inl (k5, 64, .inl (fun _ => 0)))]) [2, 3, 10, 11] rfl
    have hDc := hD.sub (ws' := [(h2, .inr (6, [.ref h3, .int 3])), (h3, .inl (k1, 64, .inl f0)), (h10, .inr (6, [.ref h11, .int 0])), (h11, .inl (k5, 64, .inl (fun _ => 0)))]) [2, 3, 10, 11] (by decide) rfl
    have hKc := hK.sub (tys' := [(k1, .byte), (k5, .byte)]) [1, 5] rfl
    have hFc := va_free (wc := [(h2, .inr (6, [.ref h3, .int 3])), (h3, .inl (k1, 64, .inl f0)), (h10, .inr (6, [.ref h11, .int 0])), (h11, .inl (k5, 64, .inl (fun _ => 0)))]) hD hS hA [2, 3, 10, 11] rfl
    refine va_callv (va_runV (As := [.ref h2, .int 0, .int 3]) (rest := []) ⟨hx, hb, hml, hown, hts⟩ (kx_X2_addPart_4 l dC dI h2 h3 h10 h11 k1 k5 H.size f0 f0_t) (cwV 3 hts gX3_type_X2_addPart rfl rfl rfl (by decide +kernel) ⟨Nat.le_of_ble_eq_true rfl, Nat.le_of_ble_eq_true rfl⟩) ⟨fun a U g mk q => by obtain ⟨q0, q1, qP, qK, qD⟩ := q; exact ⟨q0, q1, qP, va_K.moved (u := U) (U := U.calling g mk a) (Vm.Alike.refl U.vm) qK, qD⟩, va_recv hKc hPc (ci := 6) (q0 := 2) rfl rfl, fun U hU hW => ⟨rfl, by rw [hU], by rw [hU]; exact hPc, va_K.moved hW.alike hKc, hDc.weaken (fun _ _ _ _ => trivial)⟩⟩ rfl rfl hl.1 rfl (lv_room (Nat.le_of_ble_eq_true rfl)) dX3_type_127 ⟨Nat.le_of_ble_eq_true rfl, Nat.le_of_ble_eq_true rfl⟩) hS (fun q _ h => hFc q h) hFc (fun u t H1 locs ht hvm hw hB hz1 hk1 hS => ?_)
    obtain ⟨f102, f102_t, hP1, hK1, hD1⟩ := hB
    rw [ht] at hP1
    have hK1 := va_K.moved hvm.symm hK1
    obtain ⟨hP, hD⟩ := va_join (wr := [(h0, .inr (7, [.ref h1, .ref z0, .ref z1, .ref h2, .ref z2, .ref z3, .int 0, .int 0, .int 0])), (h1, .inl (k0, 4, .inr (.inr (.inr (.inr (va_up (va_up (va_up (va_up (fun _ => none) 0 (some h4)) 1 (some h6)) 2 (some h8)) 3 (some h10))))))), (h4, .inr (6, [.ref h5, .int 0])), (h5, .inl (k2, 64, .inl (fun _ => 0))), (h6, .inr (6, [.ref h7, .int 0])), (h7, .inl (k3, 64, .inl (fun _ => 0))), (h8, .inr (6, [.ref h9, .int 0])), (h9, .inl (k4, 64, .inl (fun _ => 0)))]) (w1 := [(h2, .inr (6, [.ref h3, .int 3])), (h3, .inl (k1, 64, .inl f0)), (h10, .inr (6, [.ref h11, .int 3])), (h11, .inl (k5, 64, .inl f102))]) hP hD [2, 3, 10, 11] [0, 1, 4, 5, 6, 7, 8, 9] rfl rfl (by decide) (by decide) hk1 hFc hP1 hD1
    generalize H1 = H at hP hS ⊢
    have hP : va_P (dC, dI) vwCl [(h0, .inr (7, [.ref h1, .ref z0, .ref z1, .ref h2, .ref z2, .ref z3, .int 0, .int 0, .int 0])), (h1, .inl (k0, 4, .inr (.inr (.inr (.inr (va_up (va_up (va_up (va_up (fun _ => none) 0 (some h4)) 1 (some h6)) 2 (some h8)) 3 (some h10))))))), (h4, .inr (6, [.ref h5, .int 0])), (h5, .inl (k2, 64, .inl (fun _ => 0))), (h6, .inr (6, [.ref h7, .int 0])), (h7, .inl (k3, 64, .inl (fun _ => 0))), (h8, .inr (6, [.ref h9, .int 0])), (h9, .inl (k4, 64, .inl (fun _ => 0))), (h2, .inr (6, [.ref h3, .int 3])), (h3, .inl (k1, 64, .inl f0)), (h10, .inr (6, [.ref h11, .int 3])), (h11, .inl (k5, 64, .inl f102))] H := hP
    have hD : va_D A [(h0, .inr (7, [.ref h1, .ref z0, .ref z1, .ref h2, .ref z2, .ref z3, .int 0, .int 0, .int 0])), (h1, .inl (k0, 4, .inr (.inr (.inr (.inr (va_up (va_up (va_up (va_up (fun _ => none) 0 (some h4)) 1 (some h6)) 2 (some h8)) 3 (some h10))))))), (h4, .inr (6, [.ref h5, .int 0])), (h5, .inl (k2, 64, .inl (fun _ => 0))), (h6, .inr (6, [.ref h7, .int 0])), (h7, .inl (k3, 64, .inl (fun _ => 0))), (h8, .inr (6, [.ref h9, .int 0])), (h9, .inl (k4, 64, .inl (fun _ => 0))), (h2, .inr (6, [.ref h3, .int 3])), (h3, .inl (k1, 64, .inl f0)), (h10, .inr (6, [.ref h11, .int 3])), (h11, .inl (k5, 64, .inl f102))] := hD
    refine lv_aload hx hb dX3_type_130 (lv_at hl 0 rfl) ?_
    refine va_get (D := (dC, dI)) (ci := 6) (v := .int 3) (C := RX2) (T := TX2) (N := 2) hx hb hts (by decide +kernel) hown hK hP 10 rfl rfl 1 (by decide) (hts (.fieldLink RX3 65 "Rewriterope$Text" "length" "I") (by decide +kernel)) (fun _ h9 => h9) rfl dX3_type_132 ?_
    refine W.widen (k := 0) (n := 0) (Nat.le_of_ble_eq_true rfl) (Nat.le_of_ble_eq_true rfl) ?_
    have hK := hK.sub (tys' := [(k0, .object "Rewriterope$Text"), (k1, .byte), (k2, .byte), (k3, .byte), (k4, .byte), (k5, .byte)]) [0, 1, 2, 3, 4, 5] rfl
    have hP := hP.sub (ws' := [(h0, .inr (7, [.ref h1, .ref z0, .ref z1, .ref h2, .ref z2, .ref z3, .int 0, .int 0, .int 0]))]) [0] rfl
    have hD := hD.sub (ws' := [(h0, .inr (7, [.ref h1, .ref z0, .ref z1, .ref h2, .ref z2, .ref z3, .int 0, .int 0, .int 0]))]) [0] (by decide) rfl
    exact W.iret (v := 3) hx hb hr (fun t ht hW => ⟨⟨3, (), rfl, rfl, by rw [ht]; exact hP, va_K.moved hW.alike hK, hD⟩, hS.F ht⟩) hS.2.2 dX3_type_135
set_option maxHeartbeats 4000000 in
set_option maxRecDepth 100000 in
theorem kx_X2_addPart_5 (l : Launch) (dC : Nat → ClassId) (dI : Nat → Nat → Nat) (h0 : Nat) (h1 : Nat) (h2 : Nat) (h3 : Nat) (k0 : ClassId) (k1 : ClassId) (sz : Nat) (f0 : Nat → Int32) (f0_t : sb_Fit f0) : Met l yX2_addPart wsX2_addPart ({ frames := 1, cells := 0, slots := 0, locals := 60 }) (va_Pc [.ref h2, .ref h0, .int 0, .int 4] (fun U => U.heap.size = sz ∧ va_P (dC, dI) vwCl [(h0, .inr (6, [.ref h1, .int 4])), (h1, .inl (k0, 64, .inl f0)), (h2, .inr (6, [.ref h3, .int 0])), (h3, .inl (k1, 64, .inl (fun _ => 0)))] U.heap ∧ va_K (dC, dI) vwCl [(k0, .byte), (k1, .byte)] U ∧ va_D (fun _ => True) [(h0, .inr (6, [.ref h1, .int 4])), (h1, .inl (k0, 64, .inl f0)), (h2, .inr (6, [.ref h3, .int 0])), (h3, .inl (k1, 64, .inl (fun _ => 0)))])) (va_Qv (fun _ : Unit => True) (fun (_ : Unit) (t : State) => ∃ f3 : Nat → Int32, sb_Fit f3 ∧ va_P (dC, dI) vwCl [(h0, .inr (6, [.ref h1, .int 4])), (h1, .inl (k0, 64, .inl f0)), (h2, .inr (6, [.ref h3, .int 4])), (h3, .inl (k1, 64, .inl f3))] t.heap ∧ va_K (dC, dI) vwCl [(k0, .byte), (k1, .byte)] t ∧ va_D (va_A [(h0, .inr (6, [.ref h1, .int 4])), (h1, .inl (k0, 64, .inl f0)), (h2, .inr (6, [.ref h3, .int 0])), (h3, .inl (k1, 64, .inl (fun _ => 0)))] sz) [(h0, .inr (6, [.ref h1, .int 4])), (h1, .inl (k0, 64, .inl f0)), (h2, .inr (6, [.ref h3, .int 4])), (h3, .inl (k1, 64, .inl f3))]) (va_A [(h0, .inr (6, [.ref h1, .int 4])), (h1, .inl (k0, 64, .inl f0)), (h2, .inr (6, [.ref h3, .int 0])), (h3, .inl (k1, 64, .inl (fun _ => 0)))] sz)) 0 0 (va_A [(h0, .inr (6, [.ref h1, .int 4])), (h1, .inl (k0, 64, .inl f0)), (h2, .inr (6, [.ref h3, .int 0])), (h3, .inl (k1, 64, .inl (fun _ => 0)))] sz) := by
  refine Met.ofW (cc := cX2_addPart) (maxL := 5) (ret := none) (by decide) rfl ?_
  intro p e s m args below meth c s₁ B hml hv
  obtain ⟨rfl, hsz, hP, hK, hD0⟩ := hv
  have hx := B.exec
  have hb := B.bytes
  have hr := B.returns
  have hts := atoms_spec (ws := wsX2_addPart) B.pre
  have hown : s.vm.findClass RX2 = some m.cls := findClass_of_methodNamed B.named
  have hlocks := B.notSynchronized
  subst hsz
  have hD := hD0.self (sz := s.heap.size)
  generalize hAe : va_A [(h0, .inr (6, [.ref h1, .int 4])), (h1, .inl (k0, 64, .inl f0)), (h2, .inr (6, [.ref h3, .int 0])), (h3, .inl (k1, 64, .inl (fun _ => 0)))] s.heap.size = A at hD ⊢
  have hA : ∀ q : Nat, s.heap.size ≤ q → A q := fun q h => by rw [← hAe]; exact Or.inr h
  have hS : va_S A s.heap s.heap [] := va_S.rf
  have hP : va_P (dC, dI) vwCl [(h0, .inr (6, [.ref h1, .int 4])), (h1, .inl (k0, 64, .inl f0)), (h2, .inr (6, [.ref h3, .int 0])), (h3, .inl (k1, 64, .inl (fun _ => 0)))] s.heap := hP
  have hl := lv_entry ([.ref h2, .ref h0, .int 0, .int 4]) (n := 5) (Nat.le_of_ble_eq_true rfl)
  rw [lg_entry_eq]
  generalize (lg_sl ([.ref h2, .ref h0, .int 0, .int 4]) ++ List.replicate (5 - (lg_sl ([.ref h2, .ref h0, .int 0, .int 4])).length) Slot.unset).toArray = ls at hl ⊢
  have hl : lv_has ls 5 [(0, .ref h2), (1, .ref h0), (2, .int 0), (3, .int 4)] := hl
  refine lv_iload_n hx hb dX2_addPart_0 rfl (lv_at hl 3 rfl) ?_
  refine lv_iload_n hx hb dX2_addPart_1 rfl (lv_at hl 2 rfl) ?_
  refine lv_isub hx hb dX2_addPart_2 ?_
  refine lv_topi (fun y1 ey1 => ?_)
  obtain rfl : y1 = 4 := ey1.trans (by decide)
  refine lv_istore (lv' := [(4, .int 4), (0, .ref h2), (1, .ref h0), (2, .int 0), (3, .int 4)]) hx hb dX2_addPart_3 hl (by decide) rfl (fun ls hl => ?_)
  refine lv_iload_n hx hb dX2_addPart_5 rfl (lv_at hl 3 rfl) ?_
  refine lv_if_lt (tgt := 34) hx hb dX2_addPart_6 (by decide) (fun c9 => absurd c9 (by decide)) (fun _ => ?_)
  refine lv_iload hx hb dX2_addPart_9 (lv_at hl 0 rfl) ?_
  refine lv_if_lt (tgt := 34) hx hb dX2_addPart_11 (by decide) (fun c9 => absurd c9 (by decide)) (fun _ => ?_)
  refine lv_iload_n hx hb dX2_addPart_14 rfl (lv_at hl 4 rfl) ?_
  refine lv_aload_n hx hb dX2_addPart_15 rfl (lv_at hl 2 rfl) ?_
  refine va_get (D := (dC, dI)) (ci := 6) (v := .int 4) (C := RX2) (T := TX2) (N := 2) hx hb hts (by decide +kernel) hown hK hP 0 rfl rfl 1 (by decide) (hts (.fieldLink RX2 15 "Rewriterope$Text" "length" "I") (by decide +kernel)) (fun _ h9 => h9) rfl dX2_addPart_16 ?_
  refine lv_icmp_gt (tgt := 34) hx hb dX2_addPart_19 (by decide) (fun c9 => absurd c9 (by decide)) (fun _ => ?_)
  refine lv_aload_n hx hb dX2_addPart_22 rfl (lv_at hl 1 rfl) ?_
  refine va_get (D := (dC, dI)) (ci := 6) (v := .int 0) (C := RX2) (T := TX2) (N := 2) hx hb hts (by decide +kernel) hown hK hP 2 rfl rfl 1 (by decide) (hts (.fieldLink RX2 15 "Rewriterope$Text" "length" "I") (by decide +kernel)) (fun _ h9 => h9) rfl dX2_addPart_23 ?_
  refine lv_iload hx hb dX2_addPart_26 (lv_at hl 0 rfl) ?_
  refine lv_iadd hx hb dX2_addPart_28 ?_
  refine lv_topi (fun y2 ey2 => ?_)
  obtain rfl : y2 = 4 := ey2.trans (by decide)
  refine lv_bipush (v := 64) hx hb dX2_addPart_29 (by decide) ?_
  refine lv_icmp_le (tgt := 35) hx hb dX2_addPart_31 (by decide) (fun _ => ?_) (fun c9 => absurd (by decide) c9)
  refine lv_aload_n hx hb dX2_addPart_35 rfl (lv_at hl 2 rfl) ?_
  refine va_get (D := (dC, dI)) (ci := 6) (v := .ref h1) (C := RX2) (T := TX2) (N := 2) hx hb hts (by decide +kernel) hown hK hP 0 rfl rfl 0 (by decide) (hts (.fieldLink RX2 11 "Rewriterope$Text" "letters" "[B") (by decide +kernel)) (fun _ h9 => h9) rfl dX2_addPart_36 ?_
  refine lv_iload_n hx hb dX2_addPart_39 rfl (lv_at hl 3 rfl) ?_
  refine lv_aload_n hx hb dX2_addPart_40 rfl (lv_at hl 1 rfl) ?_
  refine va_get (D := (dC, dI)) (ci := 6) (v := .ref h3) (C := RX2) (T := TX2) (N := 2) hx hb hts (by decide +kernel) hown hK hP 2 rfl rfl 0 (by decide) (hts (.fieldLink RX2 11 "Rewriterope$Text" "letters" "[B") (by decide +kernel)) (fun _ h9 => h9) rfl dX2_addPart_41 ?_
  refine lv_aload_n hx hb dX2_addPart_44 rfl (lv_at hl 1 rfl) ?_
  refine va_get (D := (dC, dI)) (ci := 6) (v := .int 0) (C := RX2) (T := TX2) (N := 2) hx hb hts (by decide +kernel) hown hK hP 2 rfl rfl 1 (by decide) (hts (.fieldLink RX2 15 "Rewriterope$Text" "length" "I") (by decide +kernel)) (fun _ h9 => h9) rfl dX2_addPart_45 ?_
  refine lv_iload hx hb dX2_addPart_48 (lv_at hl 0 rfl) ?_
  refine va_copyi (D := (dC, dI)) (sp := 0) (dp := 0) (n := 4) hx hb (by rw [hml]; exact hl.1.symm) hown (hts (.methodLink RX2 19 arraycopyName) (by decide +kernel)) (hts (.native arraycopyName) (by decide +kernel)) (hts (.static arraycopyName) (by decide +kernel)) (hts (.initialized "java/lang/System") (by decide +kernel)) hK hP hD hS 1 3 0 1 rfl rfl rfl rfl rfl (by decide) (by decide) (by decide) (by decide) (by decide) (fun i hi => f0_t _) (Nat.le_of_ble_eq_true rfl) (Nat.le_of_ble_eq_true rfl) dX2_addPart_50 (fun H locs hP hD hS => ?_)
  have hP : va_P (dC, dI) vwCl [(h0, .inr (6, [.ref h1, .int 4])), (h1, .inl (k0, 64, .inl f0)), (h2, .inr (6, [.ref h3, .int 0])), (h3, .inl (k1, 64, .inl (va_cpy f0 (fun _ => 0) (0 : Int32).toNatClampNeg (0 : Int32).toNatClampNeg (4 : Int32).toNatClampNeg)))] H := hP
  have hD : va_D A [(h0, .inr (6, [.ref h1, .int 4])), (h1, .inl (k0, 64, .inl f0)), (h2, .inr (6, [.ref h3, .int 0])), (h3, .inl (k1, 64, .inl (va_cpy f0 (fun _ => 0) (0 : Int32).toNatClampNeg (0 : Int32).toNatClampNeg (4 : Int32).toNatClampNeg)))] := hD
  obtain ⟨f3, hf3⟩ : ∃ f : Nat → Int32, f = va_cpy f0 (fun _ => 0) (0 : Int32).toNatClampNeg (0 : Int32).toNatClampNeg (4 : Int32).toNatClampNeg := ⟨_, rfl⟩
  have f3_t : sb_Fit f3 := by rw [hf3]; exact sb_fitC f0_t sb_fit0
  rw [← hf3] at hP hD
  refine lv_aload_n hx hb dX2_addPart_53 rfl (lv_at hl 1 rfl) ?_
  refine lv_dup hx hb dX2_addPart_54 rfl ?_
  refine va_get (D := (dC, dI)) (ci := 6) (v := .int 0) (C := RX2) (T := TX2) (N := 2) hx hb hts (by decide +kernel) hown hK hP 2 rfl rfl 1 (by decide) (hts (.fieldLink RX2 15 "Rewriterope$Text" "length" "I") (by decide +kernel)) (fun _ h9 => h9) rfl dX2_addPart_55 ?_
  refine lv_iload hx hb dX2_addPart_58 (lv_at hl 0 rfl) ?_
  refine lv_iadd hx hb dX2_addPart_60 ?_
  refine lv_topi (fun y4 ey4 => ?_)
  obtain rfl : y4 = 4 := ey4.trans (by decide)
  refine va_put (D := (dC, dI)) (ci := 6) (v := .int 4) (ty := .int) (C := RX2) (T := TX2) (N := 2) hx hb hts (by decide +kernel) tyX2 tyX2_ok nmX2 hown hK hP hD hS 2 rfl rfl 1 (by decide) (hts (.fieldLink RX2 15 "Rewriterope$Text" "length" "I") (by decide +kernel)) (fun _ h9 => h9) rfl (by decide +kernel) rfl rfl (Nat.le_of_ble_eq_true rfl) dX2_addPart_61 (fun H locs hP hD hS => ?_)
  have hP : va_P (dC, dI) vwCl [(h0, .inr (6, [.ref h1, .int 4])), (h1, .inl (k0, 64, .inl f0)), (h2, .inr (6, [.ref h3, .int 4])), (h3, .inl (k1, 64, .inl f3))] H := hP
  have hD : va_D A [(h0, .inr (6, [.ref h1, .int 4])), (h1, .inl (k0, 64, .inl f0)), (h2, .inr (6, [.ref h3, .int 4])), (h3, .inl (k1, 64, .inl f3))] := hD
  exact W.vret hx hb hr (fun t ht hW => ⟨⟨(), rfl, trivial, f3, f3_t, by rw [ht]; exact hP, va_K.moved hW.alike hK, hD⟩, hS.F ht⟩) hS.2.2 dX2_addPart_64
set_option maxHeartbeats 8000000 in
set_option maxRecDepth 100000 in
theorem kx_X3_type_h54 {l : Launch} {dC : Nat → ClassId} {dI : Nat → Nat → Nat} {h0 h1 h2 h3 h4 h5 h6 h7 h8 h9 h10 h11 z0 z1 z2 z3 : Nat} {k0 k1 k2 k3 k4 k5 : ClassId} {rp  R : Int32} {p : Program} {e : Env} {s : State} {m : MethodId} {args : Array Value} {below : List Frame} {meth : Method} {c : Code} {A : Nat → Prop} {H : Heap} {locs : List Loc} {ls : Array Slot} {f0 : Nat → Int32} (f0_t : sb_Fit f0) (hR : kz_ct 4 [] = R) (rp_l : (0 : Int) ≤ rp.toInt) (rp_u : rp.toInt ≤ (3 : Int)) (hx : p.tables.exec = Jvm.exec) (hb : c.code = cX3_type) (hr : meth.sig.returnType = some .int) (hml : c.maxLocals = 8) (hown : s.vm.findClass RX3 = some m.cls) (hts : ∀ w ∈ wsX3_type, w.before args s = true) (hlocks : meth.locks = false) (hA : ∀ q : Nat, s.heap.size ≤ q → A q) (hS : va_S A s.heap H locs) (hK : va_K (dC, dI) vwCl [(k0, .object "Rewriterope$Text"), (k1, .byte), (k2, .byte), (k3, .byte), (k4, .byte), (k5, .byte)] s) (hP : va_P (dC, dI) vwCl [(h0, .inr (7, [.ref h1, .ref z0, .ref z1, .ref h2, .ref z2, .ref z3, .int 0, .int 0, .int 0])), (h1, .inl (k0, 4, .inr (.inr (.inr (.inr (va_up (va_up (va_up (va_up (fun _ => none) 0 (some h4)) 1 (some h6)) 2 (some h8)) 3 (some h10))))))), (h2, .inr (6, [.ref h3, .int 4])), (h3, .inl (k1, 64, .inl f0)), (h4, .inr (6, [.ref h5, .int 0])), (h5, .inl (k2, 64, .inl (fun _ => 0))), (h6, .inr (6, [.ref h7, .int 0])), (h7, .inl (k3, 64, .inl (fun _ => 0))), (h8, .inr (6, [.ref h9, .int 0])), (h9, .inl (k4, 64, .inl (fun _ => 0))), (h10, .inr (6, [.ref h11, .int 0])), (h11, .inl (k5, 64, .inl (fun _ => 0)))] H) (hD : va_D A [(h0, .inr (7, [.ref h1, .ref z0, .ref z1, .ref h2, .ref z2, .ref z3, .int 0, .int 0, .int 0])), (h1, .inl (k0, 4, .inr (.inr (.inr (.inr (va_up (va_up (va_up (va_up (fun _ => none) 0 (some h4)) 1 (some h6)) 2 (some h8)) 3 (some h10))))))), (h2, .inr (6, [.ref h3, .int 4])), (h3, .inl (k1, 64, .inl f0)), (h4, .inr (6, [.ref h5, .int 0])), (h5, .inl (k2, 64, .inl (fun _ => 0))), (h6, .inr (6, [.ref h7, .int 0])), (h7, .inl (k3, 64, .inl (fun _ => 0))), (h8, .inr (6, [.ref h9, .int 0])), (h9, .inl (k4, 64, .inl (fun _ => 0))), (h10, .inr (6, [.ref h11, .int 0])), (h11, .inl (k5, 64, .inl (fun _ => 0)))]) (hl : lv_has ls 8 [(0, .ref h0), (1, .int rp)]) : W p l e (headSpec wsX3_type ({ frames := 2, cells := 0, slots := 0, locals := 84 })).room s m args below meth c H locs 0 0 (MQ below (va_Qi (fun (r : Int32) (_ : Unit) => r = R) (fun (_ : Unit) (t : State) => va_P (dC, dI) vwCl [(h0, .inr (7, [.ref h1, .ref z0, .ref z1, .ref h2, .ref z2, .ref z3, .int 0, .int 0, .int 0]))] t.heap ∧ va_K (dC, dI) vwCl [(k0, .object "Rewriterope$Text"), (k1, .byte), (k2, .byte), (k3, .byte), (k4, .byte), (k5, .byte)] t ∧ va_D A [(h0, .inr (7, [.ref h1, .ref z0, .ref z1, .ref h2, .ref z2, .ref z3, .int 0, .int 0, .int 0]))]) A) args s 0 0 A) (F0 m 77 ls []) := by
  have hR9 : (4 : Int32) = R := (show (4 : Int32) = kz_ct 4 [] from (kz_ct_e.trans (by decide)).symm).trans hR
  subst hR9
  rcases kz_r4 rp_l rp_u with rfl | rfl | rfl | rfl
  · refine lv_aload_n hx hb dX3_type_77 rfl (lv_at hl 0 rfl) ?_
    refine va_get (D := (dC, dI)) (ci := 7) (v := .ref h1) (C := RX3) (T := TX3) (N := 9) hx hb hts (by decide +kernel) hown hK hP 0 rfl rfl 0 (by decide) (hts (.fieldLink RX3 11 "Rewriterope" "ropes" "[LRewriterope$Text;") (by decide +kernel)) (fun _ h9 => h9) rfl dX3_type_78 ?_
    refine lv_iload_n hx hb dX3_type_81 rfl (lv_at hl 1 rfl) ?_
    refine va_aldq (D := (dC, dI)) hx hb hK hP 1 0 rfl rfl (by unfold vp_in; decide) dX3_type_82 ?_
    refine W.eq (g2 := F0 m 83 ls [.ref h4]) rfl ?_
    refine lv_astore (lv' := [(7, .ref h4), (0, .ref h0), (1, .int 0)]) hx hb dX3_type_83 hl (by decide) rfl (fun ls hl => ?_)
    refine lv_aload hx hb dX3_type_85 (lv_at hl 0 rfl) ?_
    refine va_get (D := (dC, dI)) (ci := 6) (v := .int 0) (C := RX2) (T := TX2) (N := 2) hx hb hts (by decide +kernel) hown hK hP 4 rfl rfl 1 (by decide) (hts (.fieldLink RX3 65 "Rewriterope$Text" "length" "I") (by decide +kernel)) (fun _ h9 => h9) rfl dX3_type_87 ?_
    refine lv_aload_n hx hb dX3_type_90 rfl (lv_at hl 1 rfl) ?_
    refine va_get (D := (dC, dI)) (ci := 7) (v := .ref h2) (C := RX3) (T := TX3) (N := 9) hx hb hts (by decide +kernel) hown hK hP 0 rfl rfl 3 (by decide) (hts (.fieldLink RX3 32 "Rewriterope" "work" "LRewriterope$Text;") (by decide +kernel)) (fun _ h9 => h9) rfl dX3_type_91 ?_
    refine va_get (D := (dC, dI)) (ci := 6) (v := .int 4) (C := RX2) (T := TX2) (N := 2) hx hb hts (by decide +kernel) hown hK hP 2 rfl rfl 1 (by decide) (hts (.fieldLink RX3 65 "Rewriterope$Text" "length" "I") (by decide +kernel)) (fun _ h9 => h9) rfl dX3_type_94 ?_
    refine lv_iadd hx hb dX3_type_97 ?_
    refine lv_topi (fun y101 ey101 => ?_)
    obtain rfl : y101 = 4 := ey101.trans (by decide)
    refine lv_bipush (v := 32) hx hb dX3_type_98 (by decide) ?_
    refine lv_icmp_le (tgt := 113) hx hb dX3_type_100 (by decide) (fun _ => ?_) (fun c9 => absurd (by decide) c9)
    refine lv_aload hx hb dX3_type_113 (lv_at hl 0 rfl) ?_
    refine lv_aload_n hx hb dX3_type_115 rfl (lv_at hl 1 rfl) ?_
    refine va_get (D := (dC, dI)) (ci := 7) (v := .ref h2) (C := RX3) (T := TX3) (N := 9) hx hb hts (by decide +kernel) hown hK hP 0 rfl rfl 3 (by decide) (hts (.fieldLink RX3 32 "Rewriterope" "work" "LRewriterope$Text;") (by decide +kernel)) (fun _ h9 => h9) rfl dX3_type_116 ?_
    refine lv_iconst (v := 0) hx hb dX3_type_119 (by decide) ?_
    refine lv_aload_n hx hb dX3_type_120 rfl (lv_at hl 1 rfl) ?_
    refine va_get (D := (dC, dI)) (ci := 7) (v := .ref h2) (C := RX3) (T := TX3) (N := 9) hx hb hts (by decide +kernel) hown hK hP 0 rfl rfl 3 (by decide) (hts (.fieldLink RX3 32 "Rewriterope" "work" "LRewriterope$Text;") (by decide +kernel)) (fun _ h9 => h9) rfl dX3_type_121 ?_
    refine va_get (D := (dC, dI)) (ci := 6) (v := .int 4) (C := RX2) (T := TX2) (N := 2) hx hb hts (by decide +kernel) hown hK hP 2 rfl rfl 1 (by decide) (hts (.fieldLink RX3 65 "Rewriterope$Text" "length" "I") (by decide +kernel)) (fun _ h9 => h9) rfl dX3_type_124 ?_
    have hPc := hP.sub (ws' := [(h2, .inr (6, [.ref h3, .int 4])), (h3, .inl (k1, 64, .inl f0)), (h4, .inr (6, [.ref h5, .int 0])), (h5, .inl (k2, 64, .inl (fun _ => 0)))]) [2, 3, 4, 5] rfl
    have hDc := hD.sub (ws' := [(h2, .inr (6, [.ref h3, .int 4])), (h3, .inl (k1, 64, .inl f0)), (h4, .inr (6, [.ref h5, .int 0])), (h5, .inl (k2, 64, .inl (fun _ => 0)))]) [2, 3, 4, 5] (by decide) rfl
    have hKc := hK.sub (tys' := [(k1, .byte), (k2, .byte)]) [1, 2] rfl
    have hFc := va_free (wc := [(h2, .inr (6, [.ref h3, .int 4])), (h3, .inl (k1, 64, .inl f0)), (h4, .inr (6, [.ref h5, .int 0])), (h5, .inl (k2, 64, .inl (fun _ => 0)))]) hD hS hA [2, 3, 4, 5] rfl
    refine va_callv (va_runV (As := [.ref h2, .int 0, .int 4]) (rest := []) ⟨hx, hb, hml, hown, hts⟩ (kx_X2_addPart_5 l dC dI h2 h3 h4 h5 k1 k2 H.size f0 f0_t) (cwV 3 hts gX3_type_X2_addPart rfl rfl rfl (by decide +kernel) ⟨Nat.le_of_ble_eq_true rfl, Nat.le_of_ble_eq_true rfl⟩) ⟨fun a U g mk q => by obtain ⟨q0, q1, qP, qK, qD⟩ := q; exact ⟨q0, q1, qP, va_K.moved (u := U) (U := U.calling g mk a) (Vm.Alike.refl U.vm) qK, qD⟩, va_recv hKc hPc (ci := 6) (q0 := 2) rfl rfl, fun U hU hW => ⟨rfl, by rw [hU], by rw [hU]; exact hPc, va_K.moved hW.alike hKc, hDc.weaken (fun _ _ _ _ => trivial)⟩⟩ rfl rfl hl.1 rfl (lv_room (Nat.le_of_ble_eq_true rfl)) dX3_type_127 ⟨Nat.le_of_ble_eq_true rfl, Nat.le_of_ble_eq_true rfl⟩) hS (fun q _ h => hFc q h) hFc (fun u t H1 locs ht hvm hw hB hz1 hk1 hS => ?_)
    obtain ⟨f102, f102_t, hP1, hK1, hD1⟩ := hB
    rw [ht] at hP1
    have hK1 := va_K.moved hvm.symm hK1
    obtain ⟨hP, hD⟩ := va_join (wr := [(h0, .inr (7, [.ref h1, .ref z0, .ref z1, .ref h2, .ref z2, .ref z3, .int 0, .int 0, .int 0])), (h1, .inl (k0, 4, .inr (.inr (.inr (.inr (va_up (va_up (va_up (va_up (fun _ => none) 0 (some h4)) 1 (some h6)) 2 (some h8)) 3 (some h10))))))), (h6, .inr (6, [.ref h7, .int 0])), (h7, .inl (k3, 64, .inl (fun _ => 0))), (h8, .inr (6, [.ref h9, .int 0])), (h9, .inl (k4, 64, .inl (fun _ => 0))), (h10, .inr (6, [.ref h11, .int 0])), (h11, .inl (k5, 64, .inl (fun _ => 0)))]) (w1 := [(h2, .inr (6, [.ref h3, .int 4])), (h3, .inl (k1, 64, .inl f0)), (h4, .inr (6, [.ref h5, .int 4])), (h5, .inl (k2, 64, .inl f102))]) hP hD [2, 3, 4, 5] [0, 1, 6, 7, 8, 9, 10, 11] rfl rfl (by decide) (by decide) hk1 hFc hP1 hD1
    generalize H1 = H at hP hS ⊢
    have hP : va_P (dC, dI) vwCl [(h0, .inr (7, [.ref h1, .ref z0, .ref z1, .ref h2, .ref z2, .ref z3, .int 0, .int 0, .int 0])), (h1, .inl (k0, 4, .inr (.inr (.inr (.inr (va_up (va_up (va_up (va_up (fun _ => none) 0 (some h4)) 1 (some h6)) 2 (some h8)) 3 (some h10))))))), (h6, .inr (6, [.ref h7, .int 0])), (h7, .inl (k3, 64, .inl (fun _ => 0))), (h8, .inr (6, [.ref h9, .int 0])), (h9, .inl (k4, 64, .inl (fun _ => 0))), (h10, .inr (6, [.ref h11, .int 0])), (h11, .inl (k5, 64, .inl (fun _ => 0))), (h2, .inr (6, [.ref h3, .int 4])), (h3, .inl (k1, 64, .inl f0)), (h4, .inr (6, [.ref h5, .int 4])), (h5, .inl (k2, 64, .inl f102))] H := hP
    have hD : va_D A [(h0, .inr (7, [.ref h1, .ref z0, .ref z1, .ref h2, .ref z2, .ref z3, .int 0, .int 0, .int 0])), (h1, .inl (k0, 4, .inr (.inr (.inr (.inr (va_up (va_up (va_up (va_up (fun _ => none) 0 (some h4)) 1 (some h6)) 2 (some h8)) 3 (some h10))))))), (h6, .inr (6, [.ref h7, .int 0])), (h7, .inl (k3, 64, .inl (fun _ => 0))), (h8, .inr (6, [.ref h9, .int 0])), (h9, .inl (k4, 64, .inl (fun _ => 0))), (h10, .inr (6, [.ref h11, .int 0])), (h11, .inl (k5, 64, .inl (fun _ => 0))), (h2, .inr (6, [.ref h3, .int 4])), (h3, .inl (k1, 64, .inl f0)), (h4, .inr (6, [.ref h5, .int 4])), (h5, .inl (k2, 64, .inl f102))] := hD
    refine lv_aload hx hb dX3_type_130 (lv_at hl 0 rfl) ?_
    refine va_get (D := (dC, dI)) (ci := 6) (v := .int 4) (C := RX2) (T := TX2) (N := 2) hx hb hts (by decide +kernel) hown hK hP 10 rfl rfl 1 (by decide) (hts (.fieldLink RX3 65 "Rewriterope$Text" "length" "I") (by decide +kernel)) (fun _ h9 => h9) rfl dX3_type_132 ?_
    refine W.widen (k := 0) (n := 0) (Nat.le_of_ble_eq_true rfl) (Nat.le_of_ble_eq_true rfl) ?_
    have hK := hK.sub (tys' := [(k0, .object "Rewriterope$Text"), (k1, .byte), (k2, .byte), (k3, .byte), (k4, .byte), (k5, .byte)]) [0, 1, 2, 3, 4, 5] rfl
    have hP := hP.sub (ws' := [(h0, .inr (7, [.ref h1, .ref z0, .ref z1, .ref h2, .ref z2, .ref z3, .int 0, .int 0, .int 0]))]) [0] rfl
    have hD := hD.sub (ws' := [(h0, .inr (7, [.ref h1, .ref z0, .ref z1, .ref h2, .ref z2, .ref z3, .int 0, .int 0, .int 0]))]) [0] (by decide) rfl
    exact W.iret (v := 4) hx hb hr (fun t ht hW => ⟨⟨4, (), rfl, rfl, by rw [ht]; exact hP, va_K.moved hW.alike hK, hD⟩, hS.F ht⟩) hS.2.2 dX3_type_135
  · refine lv_aload_n hx hb dX3_type_77 rfl (lv_at hl 0 rfl) ?_
    refine va_get (D := (dC, dI)) (ci := 7) (v := .ref h1) (C := RX3) (T := TX3) (N := 9) hx hb hts (by decide +kernel) hown hK hP 0 rfl rfl 0 (by decide) (hts (.fieldLink RX3 11 "Rewriterope" "ropes" "[LRewriterope$Text;") (by decide +kernel)) (fun _ h9 => h9) rfl dX3_type_78 ?_
    refine lv_iload_n hx hb dX3_type_81 rfl (lv_at hl 1 rfl) ?_
    refine va_aldq (D := (dC, dI)) hx hb hK hP 1 0 rfl rfl (by unfold vp_in; decide) dX3_type_82 ?_
    refine W.eq (g2 := F0 m 83 ls [.ref h6]) rfl ?_
    refine lv_astore (lv' := [(7, .ref h6), (0, .ref h0), (1, .int 1)]) hx hb dX3_type_83 hl (by decide) rfl (fun ls hl => ?_)
    refine lv_aload hx hb dX3_type_85 (lv_at hl 0 rfl) ?_
    refine va_get (D := (dC, dI)) (ci := 6) (v := .int 0) (C := RX2) (T := TX2) (N := 2) hx hb hts (by decide +kernel) hown hK hP 6 rfl rfl 1 (by decide) (hts (.fieldLink RX3 65 "Rewriterope$Text" "length" "I") (by decide +kernel)) (fun _ h9 => h9) rfl dX3_type_87 ?_
    refine lv_aload_n hx hb dX3_type_90 rfl (lv_at hl 1 rfl) ?_
    refine va_get (D := (dC, dI)) (ci := 7) (v := .ref h2) (C := RX3) (T := TX3) (N := 9) hx hb hts (by decide +kernel) hown hK hP 0 rfl rfl 3 (by decide) (hts (.fieldLink RX3 32 "Rewriterope" "work" "LRewriterope$Text;") (by decide +kernel)) (fun _ h9 => h9) rfl dX3_type_91 ?_
    refine va_get (D := (dC, dI)) (ci := 6) (v := .int 4) (C := RX2) (T := TX2) (N := 2) hx hb hts (by decide +kernel) hown hK hP 2 rfl rfl 1 (by decide) (hts (.fieldLink RX3 65 "Rewriterope$Text" "length" "I") (by decide +kernel)) (fun _ h9 => h9) rfl dX3_type_94 ?_
    refine lv_iadd hx hb dX3_type_97 ?_
    refine lv_topi (fun y101 ey101 => ?_)
    obtain rfl : y101 = 4 := ey101.trans (by decide)
    refine lv_bipush (v := 32) hx hb dX3_type_98 (by decide) ?_
    refine lv_icmp_le (tgt := 113) hx hb dX3_type_100 (by decide) (fun _ => ?_) (fun c9 => absurd (by decide) c9)
    refine lv_aload hx hb dX3_type_113 (lv_at hl 0 rfl) ?_
    refine lv_aload_n hx hb dX3_type_115 rfl (lv_at hl 1 rfl) ?_
    refine va_get (D := (dC, dI)) (ci := 7) (v := .ref h2) (C := RX3) (T := TX3) (N := 9) hx hb hts (by decide +kernel) hown hK hP 0 rfl rfl 3 (by decide) (hts (.fieldLink RX3 32 "Rewriterope" "work" "LRewriterope$Text;") (by decide +kernel)) (fun _ h9 => h9) rfl dX3_type_116 ?_
    refine lv_iconst (v := 0) hx hb dX3_type_119 (by decide) ?_
    refine lv_aload_n hx hb dX3_type_120 rfl (lv_at hl 1 rfl) ?_
    refine va_get (D := (dC, dI)) (ci := 7) (v := .ref h2) (C := RX3) (T := TX3) (N := 9) hx hb hts (by decide +kernel) hown hK hP 0 rfl rfl 3 (by decide) (hts (.fieldLink RX3 32 "Rewriterope" "work" "LRewriterope$Text;") (by decide +kernel)) (fun _ h9 => h9) rfl dX3_type_121 ?_
    refine va_get (D := (dC, dI)) (ci := 6) (v := .int 4) (C := RX2) (T := TX2) (N := 2) hx hb hts (by decide +kernel) hown hK hP 2 rfl rfl 1 (by decide) (hts (.fieldLink RX3 65 "Rewriterope$Text" "length" "I") (by decide +kernel)) (fun _ h9 => h9) rfl dX3_type_124 ?_
    have hPc := hP.sub (ws' := [(h2, .inr (6, [.ref h3, .int 4])), (h3, .inl (k1, 64, .inl f0)), (h6, .inr (6, [.ref h7, .int 0])), (h7, .inl (k3, 64, .inl (fun _ => 0)))]) [2, 3, 6, 7] rfl
    have hDc := hD.sub (ws' := [(h2, .inr (6, [.ref h3, .int 4])), (h3, .inl (k1, 64, .inl f0)), (h6, .inr (6, [.ref h7, .int 0])), (h7, .inl (k3, 64, .inl (fun _ => 0)))]) [2, 3, 6, 7] (by decide) rfl
    have hKc := hK.sub (tys' := [(k1, .byte), (k3, .byte)]) [1, 3] rfl
    have hFc := va_free (wc := [(h2, .inr (6, [.ref h3, .int 4])), (h3, .inl (k1, 64, .inl f0)), (h6, .inr (6, [.ref h7, .int 0])), (h7, .inl (k3, 64, .inl (fun _ => 0)))]) hD hS hA [2, 3, 6, 7] rfl
    refine va_callv (va_runV (As := [.ref h2, .int 0, .int 4]) (rest := []) ⟨hx, hb, hml, hown, hts⟩ (kx_X2_addPart_5 l dC dI h2 h3 h6 h7 k1 k3 H.size f0 f0_t) (cwV 3 hts gX3_type_X2_addPart rfl rfl rfl (by decide +kernel) ⟨Nat.le_of_ble_eq_true rfl, Nat.le_of_ble_eq_true rfl⟩) ⟨fun a U g mk q => by obtain ⟨q0, q1, qP, qK, qD⟩ := q; exact ⟨q0, q1, qP, va_K.moved (u := U) (U := U.calling g mk a) (Vm.Alike.refl U.vm) qK, qD⟩, va_recv hKc hPc (ci := 6) (q0 := 2) rfl rfl, fun U hU hW => ⟨rfl, by rw [hU], by rw [hU]; exact hPc, va_K.moved hW.alike hKc, hDc.weaken (fun _ _ _ _ => trivial)⟩⟩ rfl rfl hl.1 rfl (lv_room (Nat.le_of_ble_eq_true rfl)) dX3_type_127 ⟨Nat.le_of_ble_eq_true rfl, Nat.le_of_ble_eq_true rfl⟩) hS (fun q _ h => hFc q h) hFc (fun u t H1 locs ht hvm hw hB hz1 hk1 hS => ?_)
    obtain ⟨f102, f102_t, hP1, hK1, hD1⟩ := hB
    rw [ht] at hP1
    have hK1 := va_K.moved hvm.symm hK1
    obtain ⟨hP, hD⟩ := va_join (wr := [(h0, .inr (7, [.ref h1, .ref z0, .ref z1, .ref h2, .ref z2, .ref z3, .int 0, .int 0, .int 0])), (h1, .inl (k0, 4, .inr (.inr (.inr (.inr (va_up (va_up (va_up (va_up (fun _ => none) 0 (some h4)) 1 (some h6)) 2 (some h8)) 3 (some h10))))))), (h4, .inr (6, [.ref h5, .int 0])), (h5, .inl (k2, 64, .inl (fun _ => 0))), (h8, .inr (6, [.ref h9, .int 0])), (h9, .inl (k4, 64, .inl (fun _ => 0))), (h10, .inr (6, [.ref h11, .int 0])), (h11, .inl (k5, 64, .inl (fun _ => 0)))]) (w1 := [(h2, .inr (6, [.ref h3, .int 4])), (h3, .inl (k1, 64, .inl f0)), (h6, .inr (6, [.ref h7, .int 4])), (h7, .inl (k3, 64, .inl f102))]) hP hD [2, 3, 6, 7] [0, 1, 4, 5, 8, 9, 10, 11] rfl rfl (by decide) (by decide) hk1 hFc hP1 hD1
    generalize H1 = H at hP hS ⊢
    have hP : va_P (dC, dI) vwCl [(h0, .inr (7, [.ref h1, .ref z0, .ref z1, .ref h2, .ref z2, .ref z3, .int 0, .int 0, .int 0])), (h1, .inl (k0, 4, .inr (.inr (.inr (.inr (va_up (va_up (va_up (va_up (fun _ => none) 0 (some h4)) 1 (some h6)) 2 (some h8)) 3 (some h10))))))), (h4, .inr (6, [.ref h5, .int 0])), (h5, .inl (k2, 64, .inl (fun _ => 0))), (h8, .inr (6, [.ref h9, .int 0])), (h9, .inl (k4, 64, .inl (fun _ => 0))), (h10, .inr (6, [.ref h11, .int 0])), (h11, .inl (k5, 64, .inl (fun _ => 0))), (h2, .inr (6, [.ref h3, .int 4])), (h3, .inl (k1, 64, .inl f0)), (h6, .inr (6, [.ref h7, .int 4])), (h7, .inl (k3, 64, .inl f102))] H := hP
    have hD : va_D A [(h0, .inr (7, [.ref h1, .ref z0, .ref z1, .ref h2, .ref z2, .ref z3, .int 0, .int 0, .int 0])), (h1, .inl (k0, 4, .inr (.inr (.inr (.inr (va_up (va_up (va_up (va_up (fun _ => none) 0 (some h4)) 1 (some h6)) 2 (some h8)) 3 (some h10))))))), (h4, .inr (6, [.ref h5, .int 0])), (h5, .inl (k2, 64, .inl (fun _ => 0))), (h8, .inr (6, [.ref h9, .int 0])), (h9, .inl (k4, 64, .inl (fun _ => 0))), (h10, .inr (6, [.ref h11, .int 0])), (h11, .inl (k5, 64, .inl (fun _ => 0))), (h2, .inr (6, [.ref h3, .int 4])), (h3, .inl (k1, 64, .inl f0)), (h6, .inr (6, [.ref h7, .int 4])), (h7, .inl (k3, 64, .inl f102))] := hD
    refine lv_aload hx hb dX3_type_130 (lv_at hl 0 rfl) ?_
    refine va_get (D := (dC, dI)) (ci := 6) (v := .int 4) (C := RX2) (T := TX2) (N := 2) hx hb hts (by decide +kernel) hown hK hP 10 rfl rfl 1 (by decide) (hts (.fieldLink RX3 65 "Rewriterope$Text" "length" "I") (by decide +kernel)) (fun _ h9 => h9) rfl dX3_type_132 ?_
    refine W.widen (k := 0) (n := 0) (Nat.le_of_ble_eq_true rfl) (Nat.le_of_ble_eq_true rfl) ?_
    have hK := hK.sub (tys' := [(k0, .object "Rewriterope$Text"), (k1, .byte), (k2, .byte), (k3, .byte), (k4, .byte), (k5, .byte)]) [0, 1, 2, 3, 4, 5] rfl
    have hP := hP.sub (ws' := [(h0, .inr (7, [.ref h1, .ref z0, .ref z1, .ref h2, .ref z2, .ref z3, .int 0, .int 0, .int 0]))]) [0] rfl
    have hD := hD.sub (ws' := [(h0, .inr (7, [.ref h1, .ref z0, .ref z1, .ref h2, .ref z2, .ref z3, .int 0, .int 0, .int 0]))]) [0] (by decide) rfl
    exact W.iret (v := 4) hx hb hr (fun t ht hW => ⟨⟨4, (), rfl, rfl, by rw [ht]; exact hP, va_K.moved hW.alike hK, hD⟩, hS.F ht⟩) hS.2.2 dX3_type_135
  · refine lv_aload_n hx hb dX3_type_77 rfl (lv_at hl 0 rfl) ?_
    refine va_get (D := (dC, dI)) (ci := 7) (v := .ref h1) (C := RX3) (T := TX3) (N := 9) hx hb hts (by decide +kernel) hown hK hP 0 rfl rfl 0 (by decide) (hts (.fieldLink RX3 11 "Rewriterope" "ropes" "[LRewriterope$Text;") (by decide +kernel)) (fun _ h9 => h9) rfl dX3_type_78 ?_
    refine lv_iload_n hx hb dX3_type_81 rfl (lv_at hl 1 rfl) ?_
    refine va_aldq (D := (dC, dI)) hx hb hK hP 1 0 rfl rfl (by unfold vp_in; decide) dX3_type_82 ?_
    refine W.eq (g2 := F0 m 83 ls [.ref h8]) rfl ?_
    refine lv_astore (lv' := [(7, .ref h8), (0, .ref h0), (1, .int 2)]) hx hb dX3_type_83 hl (by decide) rfl (fun ls hl => ?_)
    refine lv_aload hx hb dX3_type_85 (lv_at hl 0 rfl) ?_
    refine va_get (D := (dC, dI)) (ci := 6) (v := .int 0) (C := RX2) (T := TX2) (N := 2) hx hb hts (by decide +kernel) hown hK hP 8 rfl rfl 1 (by decide) (hts (.fieldLink RX3 65 "Rewriterope$Text" "length" "I") (by decide +kernel)) (fun _ h9 => h9) rfl dX3_type_87 ?_
    refine lv_aload_n hx hb dX3_type_90 rfl (lv_at hl 1 rfl) ?_
    refine va_get (D := (dC, dI)) (ci := 7) (v := .ref h2) (C := RX3) (T := TX3) (N := 9) hx hb hts (by decide +kernel) hown hK hP 0 rfl rfl 3 (by decide) (hts (.fieldLink RX3 32 "Rewriterope" "work" "LRewriterope$Text;") (by decide +kernel)) (fun _ h9 => h9) rfl dX3_type_91 ?_
    refine va_get (D := (dC, dI)) (ci := 6) (v := .int 4) (C := RX2) (T := TX2) (N := 2) hx hb hts (by decide +kernel) hown hK hP 2 rfl rfl 1 (by decide) (hts (.fieldLink RX3 65 "Rewriterope$Text" "length" "I") (by decide +kernel)) (fun _ h9 => h9) rfl dX3_type_94 ?_
    refine lv_iadd hx hb dX3_type_97 ?_
    refine lv_topi (fun y101 ey101 => ?_)
    obtain rfl : y101 = 4 := ey101.trans (by decide)
    refine lv_bipush (v := 32) hx hb dX3_type_98 (by decide) ?_
    refine lv_icmp_le (tgt := 113) hx hb dX3_type_100 (by decide) (fun _ => ?_) (fun c9 => absurd (by decide) c9)
    refine lv_aload hx hb dX3_type_113 (lv_at hl 0 rfl) ?_
    refine lv_aload_n hx hb dX3_type_115 rfl (lv_at hl 1 rfl) ?_
    refine va_get (D := (dC, dI)) (ci := 7) (v := .ref h2) (C := RX3) (T := TX3) (N := 9) hx hb hts (by decide +kernel) hown hK hP 0 rfl rfl 3 (by decide) (hts (.fieldLink RX3 32 "Rewriterope" "work" "LRewriterope$Text;") (by decide +kernel)) (fun _ h9 => h9) rfl dX3_type_116 ?_
    refine lv_iconst (v := 0) hx hb dX3_type_119 (by decide) ?_
    refine lv_aload_n hx hb dX3_type_120 rfl (lv_at hl 1 rfl) ?_
    refine va_get (D := (dC, dI)) (ci := 7) (v := .ref h2) (C := RX3) (T := TX3) (N := 9) hx hb hts (by decide +kernel) hown hK hP 0 rfl rfl 3 (by decide) (hts (.fieldLink RX3 32 "Rewriterope" "work" "LRewriterope$Text;") (by decide +kernel)) (fun _ h9 => h9) rfl dX3_type_121 ?_
    refine va_get (D := (dC, dI)) (ci := 6) (v := .int 4) (C := RX2) (T := TX2) (N := 2) hx hb hts (by decide +kernel) hown hK hP 2 rfl rfl 1 (by decide) (hts (.fieldLink RX3 65 "Rewriterope$Text" "length" "I") (by decide +kernel)) (fun _ h9 => h9) rfl dX3_type_124 ?_
    have hPc := hP.sub (ws' := [(h2, .inr (6, [.ref h3, .int 4])), (h3, .inl (k1, 64, .inl f0)), (h8, .inr (6, [.ref h9, .int 0])), (h9, .inl (k4, 64, .inl (fun _ => 0)))]) [2, 3, 8, 9] rfl
    have hDc := hD.sub (ws' := [(h2, .inr (6, [.ref h3, .int 4])), (h3, .inl (k1, 64, .inl f0)), (h8, .inr (6, [.ref h9, .int 0])), (h9, .inl (k4, 64, .inl (fun _ => 0)))]) [2, 3, 8, 9] (by decide) rfl
    have hKc := hK.sub (tys' := [(k1, .byte), (k4, .byte)]) [1, 4] rfl
    have hFc := va_free (wc := [(h2, .inr (6, [.ref h3, .int 4])), (h3, .inl (k1, 64, .inl f0)), (h8, .inr (6, [.ref h9, .int 0])), (h9, .inl (k4, 64, .inl (fun _ => 0)))]) hD hS hA [2, 3, 8, 9] rfl
    refine va_callv (va_runV (As := [.ref h2, .int 0, .int 4]) (rest := []) ⟨hx, hb, hml, hown, hts⟩ (kx_X2_addPart_5 l dC dI h2 h3 h8 h9 k1 k4 H.size f0 f0_t) (cwV 3 hts gX3_type_X2_addPart rfl rfl rfl (by decide +kernel) ⟨Nat.le_of_ble_eq_true rfl, Nat.le_of_ble_eq_true rfl⟩) ⟨fun a U g mk q => by obtain ⟨q0, q1, qP, qK, qD⟩ := q; exact ⟨q0, q1, qP, va_K.moved (u := U) (U := U.calling g mk a) (Vm.Alike.refl U.vm) qK, qD⟩, va_recv hKc hPc (ci := 6) (q0 := 2) rfl rfl, fun U hU hW => ⟨rfl, by rw [hU], by rw [hU]; exact hPc, va_K.moved hW.alike hKc, hDc.weaken (fun _ _ _ _ => trivial)⟩⟩ rfl rfl hl.1 rfl (lv_room (Nat.le_of_ble_eq_true rfl)) dX3_type_127 ⟨Nat.le_of_ble_eq_true rfl, Nat.le_of_ble_eq_true rfl⟩) hS (fun q _ h => hFc q h) hFc (fun u t H1 locs ht hvm hw hB hz1 hk1 hS => ?_)
    obtain ⟨f102, f102_t, hP1, hK1, hD1⟩ := hB
    rw [ht] at hP1
    have hK1 := va_K.moved hvm.symm hK1
    obtain ⟨hP, hD⟩ := va_join (wr := [(h0, .inr (7, [.ref h1, .ref z0, .ref z1, .ref h2, .ref z2, .ref z3, .int 0, .int 0, .int 0])), (h1, .inl (k0, 4, .inr (.inr (.inr (.inr (va_up (va_up (va_up (va_up (fun _ => none) 0 (some h4)) 1 (some h6)) 2 (some h8)) 3 (some h10))))))), (h4, .inr (6, [.ref h5, .int 0])), (h5, .inl (k2, 64, .inl (fun _ => 0))), (h6, .inr (6, [.ref h7, .int 0])), (h7, .inl (k3, 64, .inl (fun _ => 0))), (h10, .inr (6, [.ref h11, .int 0])), (h11, .inl (k5, 64, .inl (fun _ => 0)))]) (w1 := [(h2, .inr (6, [.ref h3, .int 4])), (h3, .inl (k1, 64, .inl f0)), (h8, .inr (6, [.ref h9, .int 4])), (h9, .inl (k4, 64, .inl f102))]) hP hD [2, 3, 8, 9] [0, 1, 4, 5, 6, 7, 10, 11] rfl rfl (by decide) (by decide) hk1 hFc hP1 hD1
    generalize H1 = H at hP hS ⊢
    have hP : va_P (dC, dI) vwCl [(h0, .inr (7, [.ref h1, .ref z0, .ref z1, .ref h2, .ref z2, .ref z3, .int 0, .int 0, .int 0])), (h1, .inl (k0, 4, .inr (.inr (.inr (.inr (va_up (va_up (va_up (va_up (fun _ => none) 0 (some h4)) 1 (some h6)) 2 (some h8)) 3 (some h10))))))), (h4, .inr (6, [.ref h5, .int 0])), (h5, .inl (k2, 64, .inl (fun _ => 0))), (h6, .inr (6, [.ref h7, .int 0])), (h7, .inl (k3, 64, .inl (fun _ => 0))), (h10, .inr (6, [.ref h11, .int 0])), (h11, .inl (k5, 64, .inl (fun _ => 0))), (h2, .inr (6, [.ref h3, .int 4])), (h3, .inl (k1, 64, .inl f0)), (h8, .inr (6, [.ref h9, .int 4])), (h9, .inl (k4, 64, .inl f102))] H := hP
    have hD : va_D A [(h0, .inr (7, [.ref h1, .ref z0, .ref z1, .ref h2, .ref z2, .ref z3, .int 0, .int 0, .int 0])), (h1, .inl (k0, 4, .inr (.inr (.inr (.inr (va_up (va_up (va_up (va_up (fun _ => none) 0 (some h4)) 1 (some h6)) 2 (some h8)) 3 (some h10))))))), (h4, .inr (6, [.ref h5, .int 0])), (h5, .inl (k2, 64, .inl (fun _ => 0))), (h6, .inr (6, [.ref h7, .int 0])), (h7, .inl (k3, 64, .inl (fun _ => 0))), (h10, .inr (6, [.ref h11, .int 0])), (h11, .inl (k5, 64, .inl (fun _ => 0))), (h2, .inr (6, [.ref h3, .int 4])), (h3, .inl (k1, 64, .inl f0)), (h8, .inr (6, [.ref h9, .int 4])), (h9, .inl (k4, 64, .inl f102))] := hD
    refine lv_aload hx hb dX3_type_130 (lv_at hl 0 rfl) ?_
    refine va_get (D := (dC, dI)) (ci := 6) (v := .int 4) (C := RX2) (T := TX2) (N := 2) hx hb hts (by decide +kernel) hown hK hP 10 rfl rfl 1 (by decide) (hts (.fieldLink RX3 65 "Rewriterope$Text" "length" "I") (by decide +kernel)) (fun _ h9 => h9) rfl dX3_type_132 ?_
    refine W.widen (k := 0) (n := 0) (Nat.le_of_ble_eq_true rfl) (Nat.le_of_ble_eq_true rfl) ?_
    have hK := hK.sub (tys' := [(k0, .object "Rewriterope$Text"), (k1, .byte), (k2, .byte), (k3, .byte), (k4, .byte), (k5, .byte)]) [0, 1, 2, 3, 4, 5] rfl
    have hP := hP.sub (ws' := [(h0, .inr (7, [.ref h1, .ref z0, .ref z1, .ref h2, .ref z2, .ref z3, .int 0, .int 0, .int 0]))]) [0] rfl
    have hD := hD.sub (ws' := [(h0, .inr (7, [.ref h1, .ref z0, .ref z1, .ref h2, .ref z2, .ref z3, .int 0, .int 0, .int 0]))]) [0] (by decide) rfl
    exact W.iret (v := 4) hx hb hr (fun t ht hW => ⟨⟨4, (), rfl, rfl, by rw [ht]; exact hP, va_K.moved hW.alike hK, hD⟩, hS.F ht⟩) hS.2.2 dX3_type_135
  · refine lv_aload_n hx hb dX3_type_77 rfl (lv_at hl 0 rfl) ?_
    refine va_get (D := (dC, dI)) (ci := 7) (v := .ref h1) (C := RX3) (T := TX3) (N := 9) hx hb hts (by decide +kernel) hown hK hP 0 rfl rfl 0 (by decide) (hts (.fieldLink RX3 11 "Rewriterope" "ropes" "[LRewriterope$Text;") (by decide +kernel)) (fun _ h9 => h9) rfl dX3_type_78 ?_
    refine lv_iload_n hx hb dX3_type_81 rfl (lv_at hl 1 rfl) ?_
    refine va_aldq (D := (dC, dI)) hx hb hK hP 1 0 rfl rfl (by unfold vp_in; decide) dX3_type_82 ?_
    refine W.eq (g2 := F0 m 83 ls [.ref h10]) rfl ?_
    refine lv_astore (lv' := [(7, .ref h10), (0, .ref h0), (1, .int 3)]) hx hb dX3_type_83 hl (by decide) rfl (fun ls hl => ?_)
    refine lv_aload hx hb dX3_type_85 (lv_at hl 0 rfl) ?_
    refine va_get (D := (dC, dI)) (ci := 6) (v := .int 0) (C := RX2) (T := TX2) (N := 2) hx hb hts (by decide +kernel) hown hK hP 10 rfl rfl 1 (by decide) (hts (.fieldLink RX3 65 "Rewriterope$Text" "length" "I") (by decide +kernel)) (fun _ h9 => h9) rfl dX3_type_87 ?_
    refine lv_aload_n hx hb dX3_type_90 rfl (lv_at hl 1 rfl) ?_
    refine va_get (D := (dC, dI)) (ci := 7) (v := .ref h2) (C := RX3) (T := TX3) (N := 9) hx hb hts (by decide +kernel) hown hK hP 0 rfl rfl 3 (by decide) (hts (.fieldLink RX3 32 "Rewriterope" "work" "LRewriterope$Text;") (by decide +kernel)) (fun _ h9 => h9) rfl dX3_type_91 ?_
    refine va_get (D := (dC, dI)) (ci := 6) (v := .int 4) (C := RX2) (T := TX2) (N := 2) hx hb hts (by decide +kernel) hown hK hP 2 rfl rfl 1 (by decide) (hts (.fieldLink RX3 65 "Rewriterope$Text" "length" "I") (by decide +kernel)) (fun _ h9 => h9) rfl dX3_type_94 ?_
    refine lv_iadd hx hb dX3_type_97 ?_
    refine lv_topi (fun y101 ey101 => ?_)
    obtain rfl : y101 = 4 := ey101.trans (by decide)
    refine lv_bipush (v := 32) hx hb dX3_type_98 (by decide) ?_
    refine lv_icmp_le (tgt := 113) hx hb dX3_type_100 (by decide) (fun _ => ?_) (fun c9 => absurd (by decide) c9)
    refine lv_aload hx hb dX3_type_113 (lv_at hl 0 rfl) ?_
    refine lv_aload_n hx hb dX3_type_115 rfl (lv_at hl 1 rfl) ?_
    refine va_get (D := (dC, dI)) (ci := 7) (v := .ref h2) (C := RX3) (T := TX3) (N := 9) hx hb hts (by decide +kernel) hown hK hP 0 rfl rfl 3 (by decide) (hts (.fieldLink RX3 32 "Rewriterope" "work" "LRewriterope$Text;") (by decide +kernel)) (fun _ h9 => h9) rfl dX3_type_116 ?_
    refine lv_iconst (v := 0) hx hb dX3_type_119 (by decide) ?_
    refine lv_aload_n hx hb dX3_type_120 rfl (lv_at hl 1 rfl) ?_
    refine va_get (D := (dC, dI)) (ci := 7) (v := .ref h2) (C := RX3) (T := TX3) (N := 9) hx hb hts (by decide +kernel) hown hK hP 0 rfl rfl 3 (by decide) (hts (.fieldLink RX3 32 "Rewriterope" "work" "LRewriterope$Text;") (by decide +kernel)) (fun _ h9 => h9) rfl dX3_type_121 ?_
    refine va_get (D := (dC, dI)) (ci := 6) (v := .int 4) (C := RX2) (T := TX2) (N := 2) hx hb hts (by decide +kernel) hown hK hP 2 rfl rfl 1 (by decide) (hts (.fieldLink RX3 65 "Rewriterope$Text" "length" "I") (by decide +kernel)) (fun _ h9 => h9) rfl dX3_type_124 ?_
    have hPc := hP.sub (ws' := [(h2, .inr (6, [.ref h3, .int 4])), (h3, .inl (k1, 64, .inl f0)), (h10, .inr (6, [.ref h11, .int 0])), (h11, .inl (k5, 64, .inl (fun _ => 0)))]) [2, 3, 10, 11] rfl
    have hDc := hD.sub (ws' := [(h2, .inr (6, [.ref h3, .int 4])), (h3, .inl (k1, 64, .inl f0)), (h10, .inr (6, [.ref h11, .int 0])), (h11, .inl (k5, 64, .inl (fun _ => 0)))]) [2, 3, 10, 11] (by decide) rfl
    have hKc := hK.sub (tys' := [(k1, .byte), (k5, .byte)]) [1, 5] rfl
    have hFc := va_free (wc := [(h2, .inr (6, [.ref h3, .int 4])), (h3, .inl (k1, 64, .inl f0)), (h10, .inr (6, [.ref h11, .int 0])), (h11, .inl (k5, 64, .inl (fun _ => 0)))]) hD hS hA [2, 3, 10, 11] rfl
    refine va_callv (va_runV (As := [.ref h2, .int 0, .int 4]) (rest := []) ⟨hx, hb, hml, hown, hts⟩ (kx_X2_addPart_5 l dC dI h2 h3 h10 h11 k1 k5 H.size f0 f0_t) (cwV 3 hts gX3_type_X2_addPart rfl rfl rfl (by decide +kernel) ⟨Nat.le_of_ble_eq_true rfl, Nat.le_of_ble_eq_true rfl⟩) ⟨fun a U g mk q => by obtain ⟨q0, q1, qP, qK, qD⟩ := q; exact ⟨q0, q1, qP, va_K.moved (u := U) (U := U.calling g mk a) (Vm.Alike.refl U.vm) qK, qD⟩, va_recv hKc hPc (ci := 6) (q0 := 2) rfl rfl, fun U hU hW => ⟨rfl, by rw [hU], by rw [hU]; exact hPc, va_K.moved hW.alike hKc, hDc.weaken (fun _ _ _ _ => trivial)⟩⟩ rfl rfl hl.1 rfl (lv_room (Nat.le_of_ble_eq_true rfl)) dX3_type_127 ⟨Nat.le_of_ble_eq_true rfl, Nat.le_of_ble_eq_true rfl⟩) hS (fun q _ h => hFc q h) hFc (fun u t H1 locs ht hvm hw hB hz1 hk1 hS => ?_)
    obtain ⟨f102, f102_t, hP1, hK1, hD1⟩ := hB
    rw [ht] at hP1
    have hK1 := va_K.moved hvm.symm hK1
    obtain ⟨hP, hD⟩ := va_join (wr := [(h0, .inr (7, [.ref h1, .ref z0, .ref z1, .ref h2, .ref z2, .ref z3, .int 0, .int 0, .int 0])), (h1, .inl (k0, 4, .inr (.inr (.inr (.inr (va_up (va_up (va_up (va_up (fun _ => none) 0 (some h4)) 1 (some h6)) 2 (some h8)) 3 (some h10))))))), (h4, .inr (6, [.ref h5, .int 0])), (h5, .inl (k2, 64, .inl (fun _ => 0))), (h6, .inr (6, [.ref h7, .int 0])), (h7, .inl (k3, 64, .inl (fun _ => 0))), (h8, .inr (6, [.ref h9, .int 0])), (h9, .inl (k4, 64, .inl (fun _ => 0)))]) (w1 := [(h2, .inr (6, [.ref h3, .int 4])), (h3, .inl (k1, 64, .inl f0)), (h10, .inr (6, [.ref h11, .int 4])), (h11, .inl (k5, 64, .inl f102))]) hP hD [2, 3, 10, 11] [0, 1, 4, 5, 6, 7, 8, 9] rfl rfl (by decide) (by decide) hk1 hFc hP1 hD1
    generalize H1 = H at hP hS ⊢
    have hP : va_P (dC, dI) vwCl [(h0, .inr (7, [.ref h1, .ref z0, .ref z1, .ref h2, .ref z2, .ref z3, .int 0, .int 0, .int 0])), (h1, .inl (k0, 4, .inr (.inr (.inr (.inr (va_up (va_up (va_up (va_up (fun _ => none) 0 (some h4)) 1 (some h6)) 2 (some h8)) 3 (some h10))))))), (h4, .inr (6, [.ref h5, .int 0])), (h5, .inl (k2, 64, .inl (fun _ => 0))), (h6, .inr (6, [.ref h7, .int 0])), (h7, .inl (k3, 64, .inl (fun _ => 0))), (h8, .inr (6, [.ref h9, .int 0])), (h9, .inl (k4, 64, .inl (fun _ => 0))), (h2, .inr (6, [.ref h3, .int 4])), (h3, .inl (k1, 64, .inl f0)), (h10, .inr (6, [.ref h11, .int 4])), (h11, .inl (k5, 64, .inl f102))] H := hP
    have hD : va_D A [(h0, .inr (7, [.ref h1, .ref z0, .ref z1, .ref h2, .ref z2, .ref z3, .int 0, .int 0, .int 0])), (h1, .inl (k0, 4, .inr (.inr (.inr (.inr (va_up (va_up (va_up (va_up (fun _ => none) 0 (some h4)) 1 (some h6)) 2 (some h8)) 3 (some h10))))))), (h4, .inr (6, [.ref h5, .int 0])), (h5, .inl (k2, 64, .inl (fun _ => 0))), (h6, .inr (6, [.ref h7, .int 0])), (h7, .inl (k3, 64, .inl (fun _ => 0))), (h8, .inr (6, [.ref h9, .int 0])), (h9, .inl (k4, 64, .inl (fun _ => 0))), (h2, .inr (6, [.ref h3, .int 4])), (h3, .inl (k1, 64, .inl f0)), (h10, .inr (6, [.ref h11, .int 4])), (h11, .inl (k5, 64, .inl f102))] := hD
    refine lv_aload hx hb dX3_type_130 (lv_at hl 0 rfl) ?_
    refine va_get (D := (dC, dI)) (ci := 6) (v := .int 4) (C := RX2) (T := TX2) (N := 2) hx hb hts (by decide +kernel) hown hK hP 10 rfl rfl 1 (by decide) (hts (.fieldLink RX3 65 "Rewriterope$Text" "length" "I") (by decide +kernel)) (fun _ h9 => h9) rfl dX3_type_132 ?_
    refine W.widen (k := 0) (n := 0) (Nat.le_of_ble_eq_true rfl) (Nat.le_of_ble_eq_true rfl) ?_
    have hK := hK.sub (tys' := [(k0, .object "Rewriterope$Text"), (k1, .byte), (k2, .byte), (k3, .byte), (k4, .byte), (k5, .byte)]) [0, 1, 2, 3, 4, 5] rfl
    have hP := hP.sub (ws' := [(h0, .inr (7, [.ref h1, .ref z0, .ref z1, .ref h2, .ref z2, .ref z3, .int 0, .int 0, .int 0]))]) [0] rfl
    have hD := hD.sub (ws' := [(h0, .inr (7, [.ref h1, .ref z0, .ref z1, .ref h2, .ref z2, .ref z3, .int 0, .int 0, .int 0]))]) [0] (by decide) rfl
    exact W.iret (v := 4) hx hb hr (fun t ht hW => ⟨⟨4, (), rfl, rfl, by rw [ht]; exact hP, va_K.moved hW.alike hK, hD⟩, hS.F ht⟩) hS.2.2 dX3_type_135
set_option maxHeartbeats 4000000 in
set_option maxRecDepth 100000 in
theorem kx_X2_addPart_6 (l : Launch) (dC : Nat → ClassId) (dI : Nat → Nat → Nat) (h0 : Nat) (h1 : Nat) (h2 : Nat) (h3 : Nat) (k0 : ClassId) (k1 : ClassId) (sz : Nat) (f0 : Nat → Int32) (f0_t : sb_Fit f0) : Met l yX2_addPart wsX2_addPart ({ frames := 1, cells := 0, slots := 0, locals := 60 }) (va_Pc [.ref h2, .ref h0, .int 0, .int 5] (fun U => U.heap.size = sz ∧ va_P (dC, dI) vwCl [(h0, .inr (6, [.ref h1, .int 5])), (h1, .inl (k0, 64, .inl f0)), (h2, .inr (6, [.ref h3, .int 0])), (h3, .inl (k1, 64, .inl (fun _ => 0)))] U.heap ∧ va_K (dC, dI) vwCl [(k0, .byte), (k1, .byte)] U ∧ va_D (fun _ => True) [(h0, .inr (6, [.ref h1, .int 5])), (h1, .inl (k0, 64, .inl f0)), (h2, .inr (6, [.ref h3, .int 0])), (h3, .inl (k1, 64, .inl (fun _ => 0)))])) (va_Qv (fun _ : Unit => True) (fun (_ : Unit) (t : State) => ∃ f3 : Nat → Int32, sb_Fit f3 ∧ va_P (dC, dI) vwCl [(h0, .inr (6, [.ref h1, .int 5])), (h1, .inl (k0, 64, .inl f0)), (h2, .inr (6, [.ref h3, .int 5])), (h3, .inl (k1, 64, .inl f3))] t.heap ∧ va_K (dC, dI) vwCl [(k0, .byte), (k1, .byte)] t ∧ va_D (va_A [(h0, .inr (6, [.ref h1, .int 5])), (h1, .inl (k0, 64, .inl f0)), (h2, .inr (6, [.ref h3, .int 0])), (h3, .inl (k1, 64, .inl (fun _ => 0)))] sz) [(h0, .inr (6, [.ref h1, .int 5])), (h1, .inl (k0, 64, .inl f0)), (h2, .inr (6, [.ref h3, .int 5])), (h3, .inl (k1, 64, .inl f3))]) (va_A [(h0, .inr (6, [.ref h1, .int 5])), (h1, .inl (k0, 64, .inl f0)), (h2, .inr (6, [.ref h3, .int 0])), (h3, .inl (k1, 64, .inl (fun _ => 0)))] sz)) 0 0 (va_A [(h0, .inr (6, [.ref h1, .int 5])), (h1, .inl (k0, 64, .inl f0)), (h2, .inr (6, [.ref h3, .int 0])), (h3, .inl (k1, 64, .inl (fun _ => 0)))] sz) := by
  refine Met.ofW (cc := cX2_addPart) (maxL := 5) (ret := none) (by decide) rfl ?_
  intro p e s m args below meth c s₁ B hml hv
  obtain ⟨rfl, hsz, hP, hK, hD0⟩ := hv
  have hx := B.exec
  have hb := B.bytes
  have hr := B.returns
  have hts := atoms_spec (ws := wsX2_addPart) B.pre
  have hown : s.vm.findClass RX2 = some m.cls := findClass_of_methodNamed B.named
  have hlocks := B.notSynchronized
  subst hsz
  have hD := hD0.self (sz := s.heap.size)
  generalize hAe : va_A [(h0, .inr (6, [.ref h1, .int 5])), (h1, .inl (k0, 64, .inl f0)), (h2, .inr (6, [.ref h3, .int 0])), (h3, .inl (k1, 64, .inl (fun _ => 0)))] s.heap.size = A at hD ⊢
  have hA : ∀ q : Nat, s.heap.size ≤ q → A q := fun q h => by rw [← hAe]; exact Or.inr h
  have hS : va_S A s.heap s.heap [] := va_S.rf
  have hP : va_P (dC, dI) vwCl [(h0, .inr (6, [.ref h1, .int 5])), (h1, .inl (k0, 64, .inl f0)), (h2, .inr (6, [.ref h3, .int 0])), (h3, .inl (k1, 64, .inl (fun _ => 0)))] s.heap := hP
  have hl := lv_entry ([.ref h2, .ref h0, .int 0, .int 5]) (n := 5) (Nat.le_of_ble_eq_true rfl)
  rw [lg_entry_eq]
  generalize (lg_sl ([.ref h2, .ref h0, .int 0, .int 5]) ++ List.replicate (5 - (lg_sl ([.ref h2, .ref h0, .int 0, .int 5])).length) Slot.unset).toArray = ls at hl ⊢
  have hl : lv_has ls 5 [(0, .ref h2), (1, .ref h0), (2, .int 0), (3, .int 5)] := hl
  refine lv_iload_n hx hb dX2_addPart_0 rfl (lv_at hl 3 rfl) ?_
  refine lv_iload_n hx hb dX2_addPart_1 rfl (lv_at hl 2 rfl) ?_
  refine lv_isub hx hb dX2_addPart_2 ?_
  refine lv_topi (fun y1 ey1 => ?_)
  obtain rfl : y1 = 5 := ey1.trans (by decide)
  refine lv_istore (lv' := [(4, .int 5), (0, .ref h2), (1, .ref h0), (2, .int 0), (3, .int 5)]) hx hb dX2_addPart_3 hl (by decide) rfl (fun ls hl => ?_)
  refine lv_iload_n hx hb dX2_addPart_5 rfl (lv_at hl 3 rfl) ?_
  refine lv_if_lt (tgt := 34) hx hb dX2_addPart_6 (by decide) (fun c9 => absurd c9 (by decide)) (fun _ => ?_)
  refine lv_iload hx hb dX2_addPart_9 (lv_at hl 0 rfl) ?_
  refine lv_if_lt (tgt := 34) hx hb dX2_addPart_11 (by decide) (fun c9 => absurd c9 (by decide)) (fun _ => ?_)
  refine lv_iload_n hx hb dX2_addPart_14 rfl (lv_at hl 4 rfl) ?_
  refine lv_aload_n hx hb dX2_addPart_15 rfl (lv_at hl 2 rfl) ?_
  refine va_get (D := (dC, dI)) (ci := 6) (v := .int 5) (C := RX2) (T := TX2) (N := 2) hx hb hts (by decide +kernel) hown hK hP 0 rfl rfl 1 (by decide) (hts (.fieldLink RX2 15 "Rewriterope$Text" "length" "I") (by decide +kernel)) (fun _ h9 => h9) rfl dX2_addPart_16 ?_
  refine lv_icmp_gt (tgt := 34) hx hb dX2_addPart_19 (by decide) (fun c9 => absurd c9 (by decide)) (fun _ => ?_)
  refine lv_aload_n hx hb dX2_addPart_22 rfl (lv_at hl 1 rfl) ?_
  refine va_get (D := (dC, dI)) (ci := 6) (v := .int 0) (C := RX2) (T := TX2) (N := 2) hx hb hts (by decide +kernel) hown hK hP 2 rfl rfl 1 (by decide) (hts (.fieldLink RX2 15 "Rewriterope$Text" "length" "I") (by decide +kernel)) (fun _ h9 => h9) rfl dX2_addPart_23 ?_
  refine lv_iload hx hb dX2_addPart_26 (lv_at hl 0 rfl) ?_
  refine lv_iadd hx hb dX2_addPart_28 ?_
  refine lv_topi (fun y2 ey2 => ?_)
  obtain rfl : y2 = 5 := ey2.trans (by decide)
  refine lv_bipush (v := 64) hx hb dX2_addPart_29 (by decide) ?_
  refine lv_icmp_le (tgt := 35) hx hb dX2_addPart_31 (by decide) (fun _ => ?_) (fun c9 => absurd (by decide) c9)
  refine lv_aload_n hx hb dX2_addPart_35 rfl (lv_at hl 2 rfl) ?_
  refine va_get (D := (dC, dI)) (ci := 6) (v := .ref h1) (C := RX2) (T := TX2) (N := 2) hx hb hts (by decide +kernel) hown hK hP 0 rfl rfl 0 (by decide) (hts (.fieldLink RX2 11 "Rewriterope$Text" "letters" "[B") (by decide +kernel)) (fun _ h9 => h9) rfl dX2_addPart_36 ?_
  refine lv_iload_n hx hb dX2_addPart_39 rfl (lv_at hl 3 rfl) ?_
  refine lv_aload_n hx hb dX2_addPart_40 rfl (lv_at hl 1 rfl) ?_
  refine va_get (D := (dC, dI)) (ci := 6) (v := .ref h3) (C := RX2) (T := TX2) (N := 2) hx hb hts (by decide +kernel) hown hK hP 2 rfl rfl 0 (by decide) (hts (.fieldLink RX2 11 "Rewriterope$Text" "letters" "[B") (by decide +kernel)) (fun _ h9 => h9) rfl dX2_addPart_41 ?_
  refine lv_aload_n hx hb dX2_addPart_44 rfl (lv_at hl 1 rfl) ?_
  refine va_get (D := (dC, dI)) (ci := 6) (v := .int 0) (C := RX2) (T := TX2) (N := 2) hx hb hts (by decide +kernel) hown hK hP 2 rfl rfl 1 (by decide) (hts (.fieldLink RX2 15 "Rewriterope$Text" "length" "I") (by decide +kernel)) (fun _ h9 => h9) rfl dX2_addPart_45 ?_
  refine lv_iload hx hb dX2_addPart_48 (lv_at hl 0 rfl) ?_
  refine va_copyi (D := (dC, dI)) (sp := 0) (dp := 0) (n := 5) hx hb (by rw [hml]; exact hl.1.symm) hown (hts (.methodLink RX2 19 arraycopyName) (by decide +kernel)) (hts (.native arraycopyName) (by decide +kernel)) (hts (.static arraycopyName) (by decide +kernel)) (hts (.initialized "java/lang/System") (by decide +kernel)) hK hP hD hS 1 3 0 1 rfl rfl rfl rfl rfl (by decide) (by decide) (by decide) (by decide) (by decide) (fun i hi => f0_t _) (Nat.le_of_ble_eq_true rfl) (Nat.le_of_ble_eq_true rfl) dX2_addPart_50 (fun H locs hP hD hS => ?_)
  have hP : va_P (dC, dI) vwCl [(h0, .inr (6, [.ref h1, .int 5])), (h1, .inl (k0, 64, .inl f0)), (h2, .inr (6, [.ref h3, .int 0])), (h3, .inl (k1, 64, .inl (va_cpy f0 (fun _ => 0) (0 : Int32).toNatClampNeg (0 : Int32).toNatClampNeg (5 : Int32).toNatClampNeg)))] H := hP
  have hD : va_D A [(h0, .inr (6, [.ref h1, .int 5])), (h1, .inl (k0, 64, .inl f0)), (h2, .inr (6, [.ref h3, .int 0])), (h3, .inl (k1, 64, .inl (va_cpy f0 (fun _ => 0) (0 : Int32).toNatClampNeg (0 : Int32).toNatClampNeg (5 : Int32).toNatClampNeg)))] := hD
  obtain ⟨f3, hf3⟩ : ∃ f : Nat → Int32, f = va_cpy f0 (fun _ => 0) (0 : Int32).toNatClampNeg (0 : Int32).toNatClampNeg (5 : Int32).toNatClampNeg := ⟨_, rfl⟩
  have f3_t : sb_Fit f3 := by rw [hf3]; exact sb_fitC f0_t sb_fit0
  rw [← hf3] at hP hD
  refine lv_aload_n hx hb dX2_addPart_53 rfl (lv_at hl 1 rfl) ?_
  refine lv_dup hx hb dX2_addPart_54 rfl ?_
  refine va_get (D := (dC, dI)) (ci := 6) (v := .int 0) (C := RX2) (T := TX2) (N := 2) hx hb hts (by decide +kernel) hown hK hP 2 rfl rfl 1 (by decide) (hts (.fieldLink RX2 15 "Rewriterope$Text" "length" "I") (by decide +kernel)) (fun _ h9 => h9) rfl dX2_addPart_55 ?_
  refine lv_iload hx hb dX2_addPart_58 (lv_at hl 0 rfl) ?_
  refine lv_iadd hx hb dX2_addPart_60 ?_
  refine lv_topi (fun y4 ey4 => ?_)
  obtain rfl : y4 = 5 := ey4.trans (by decide)
  refine va_put (D := (dC, dI)) (ci := 6) (v := .int 5) (ty := .int) (C := RX2) (T := TX2) (N := 2) hx hb hts (by decide +kernel) tyX2 tyX2_ok nmX2 hown hK hP hD hS 2 rfl rfl 1 (by decide) (hts (.fieldLink RX2 15 "Rewriterope$Text" "length" "I") (by decide +kernel)) (fun _ h9 => h9) rfl (by decide +kernel) rfl rfl (Nat.le_of_ble_eq_true rfl) dX2_addPart_61 (fun H locs hP hD hS => ?_)
  have hP : va_P (dC, dI) vwCl [(h0, .inr (6, [.ref h1, .int 5])), (h1, .inl (k0, 64, .inl f0)), (h2, .inr (6, [.ref h3, .int 5])), (h3, .inl (k1, 64, .inl f3))] H := hP
  have hD : va_D A [(h0, .inr (6, [.ref h1, .int 5])), (h1, .inl (k0, 64, .inl f0)), (h2, .inr (6, [.ref h3, .int 5])), (h3, .inl (k1, 64, .inl f3))] := hD
  exact W.vret hx hb hr (fun t ht hW => ⟨⟨(), rfl, trivial, f3, f3_t, by rw [ht]; exact hP, va_K.moved hW.alike hK, hD⟩, hS.F ht⟩) hS.2.2 dX2_addPart_64
set_option maxHeartbeats 8000000 in
set_option maxRecDepth 100000 in
theorem kx_X3_type_h55 {l : Launch} {dC : Nat → ClassId} {dI : Nat → Nat → Nat} {h0 h1 h2 h3 h4 h5 h6 h7 h8 h9 h10 h11 z0 z1 z2 z3 : Nat} {k0 k1 k2 k3 k4 k5 : ClassId} {rp  R : Int32} {p : Program} {e : Env} {s : State} {m : MethodId} {args : Array Value} {below : List Frame} {meth : Method} {c : Code} {A : Nat → Prop} {H : Heap} {locs : List Loc} {ls : Array Slot} {f0 : Nat → Int32} (f0_t : sb_Fit f0) (hR : kz_ct 5 [] = R) (rp_l : (0 : Int) ≤ rp.toInt) (rp_u : rp.toInt ≤ (3 : Int)) (hx : p.tables.exec = Jvm.exec) (hb : c.code = cX3_type) (hr : meth.sig.returnType = some .int) (hml : c.maxLocals = 8) (hown : s.vm.findClass RX3 = some m.cls) (hts : ∀ w ∈ wsX3_type, w.before args s = true) (hlocks : meth.locks = false) (hA : ∀ q : Nat, s.heap.size ≤ q → A q) (hS : va_S A s.heap H locs) (hK : va_K (dC, dI) vwCl [(k0, .object "Rewriterope$Text"), (k1, .byte), (k2, .byte), (k3, .byte), (k4, .byte), (k5, .byte)] s) (hP : va_P (dC, dI) vwCl [(h0, .inr (7, [.ref h1, .ref z0, .ref z1, .ref h2, .ref z2, .ref z3, .int 0, .int 0, .int 0])), (h1, .inl (k0, 4, .inr (.inr (.inr (.inr (va_up (va_up (va_up (va_up (fun _ => none) 0 (some h4)) 1 (some h6)) 2 (some h8)) 3 (some h10))))))), (h2, .inr (6, [.ref h3, .int 5])), (h3, .inl (k1, 64, .inl f0)), (h4, .inr (6, [.ref h5, .int 0])), (h5, .inl (k2, 64, .inl (fun _ => 0))), (h6, .inr (6, [.ref h7, .int 0])), (h7, .inl (k3, 64, .inl (fun _ => 0))), (h8, .inr (6, [.ref h9, .int 0])), (h9, .inl (k4, 64, .inl (fun _ => 0))), (h10, .inr (6, [.ref h11, .int 0])), (h11, .inl (k5, 64, .inl (fun _ => 0)))] H) (hD : va_D A [(h0, .inr (7, [.ref h1, .ref z0, .ref z1, .ref h2, .ref z2, .ref z3, .int 0, .int 0, .int 0])), (h1, .inl (k0, 4, .inr (.inr (.inr (.inr (va_up (va_up (va_up (va_up (fun _ => none) 0 (some h4)) 1 (some h6)) 2 (some h8)) 3 (some h10))))))), (h2, .inr (6, [.ref h3, .int 5])), (h3, .inl (k1, 64, .inl f0)), (h4, .inr (6, [.ref h5, .int 0])), (h5, .inl (k2, 64, .inl (fun _ => 0))), (h6, .inr (6, [.ref h7, .int 0])), (h7, .inl (k3, 64, .inl (fun _ => 0))), (h8, .inr (6, [.ref h9, .int 0])), (h9, .inl (k4, 64, .inl (fun _ => 0))), (h10, .inr (6, [.ref h11, .int 0])), (h11, .inl (k5, 64, .inl (fun _ => 0)))]) (hl : lv_has ls 8 [(0, .ref h0), (1, .int rp)]) : W p l e (headSpec wsX3_type ({ frames := 2, cells := 0, slots := 0, locals := 84 })).room s m args below meth c H locs 0 0 (MQ below (va_Qi (fun (r : Int32) (_ : Unit) => r = R) (fun (_ : Unit) (t : State) => va_P (dC, dI) vwCl [(h0, .inr (7, [.ref h1, .ref z0, .ref z1, .ref h2, .ref z2, .ref z3, .int 0, .int 0, .int 0]))] t.heap ∧ va_K (dC, dI) vwCl [(k0, .object "Rewriterope$Text"), (k1, .byte), (k2, .byte), (k3, .byte), (k4, .byte), (k5, .byte)] t ∧ va_D A [(h0, .inr (7, [.ref h1, .ref z0, .ref z1, .ref h2, .ref z2, .ref z3, .int 0, .int 0, .int 0]))]) A) args s 0 0 A) (F0 m 77 ls []) := by
  have hR9 : (5 : Int32) = R := (show (5 : Int32) = kz_ct 5 [] from (kz_ct_e.trans (by decide)).symm).trans hR
  subst hR9
  rcases kz_r4 rp_l rp_u with rfl | rfl | rfl | rfl
  · refine lv_aload_n hx hb dX3_type_77 rfl (lv_at hl 0 rfl) ?_
    refine va_get (D := (dC, dI)) (ci := 7) (v := .ref h1) (C := RX3) (T := TX3) (N := 9) hx hb hts (by decide +kernel) hown hK hP 0 rfl rfl 0 (by decide) (hts (.fieldLink RX3 11 "Rewriterope" "ropes" "[LRewriterope$Text;") (by decide +kernel)) (fun _ h9 => h9) rfl dX3_type_78 ?_
    refine lv_iload_n hx hb dX3_type_81 rfl (lv_at hl 1 rfl) ?_
    refine va_aldq (D := (dC, dI)) hx hb hK hP 1 0 rfl rfl (by unfold vp_in; decide) dX3_type_82 ?_
    refine W.eq (g2 := F0 m 83 ls [.ref h4]) rfl ?_
    refine lv_astore (lv' := [(7, .ref h4), (0, .ref h0), (1, .int 0)]) hx hb dX3_type_83 hl (by decide) rfl (fun ls hl => ?_)
    refine lv_aload hx hb dX3_type_85 (lv_at hl 0 rfl) ?_
    refine va_get (D := (dC, dI)) (ci := 6) (v := .int 0) (C := RX2) (T := TX2) (N := 2) hx hb hts (by decide +kernel) hown hK hP 4 rfl rfl 1 (by decide) (hts (.fieldLink RX3 65 "Rewriterope$Text" "length" "I") (by decide +kernel)) (fun _ h9 => h9) rfl dX3_type_87 ?_
    refine lv_aload_n hx hb dX3_type_90 rfl (lv_at hl 1 rfl) ?_
    refine va_get (D := (dC, dI)) (ci := 7) (v := .ref h2) (C := RX3) (T := TX3) (N := 9) hx hb hts (by decide +kernel) hown hK hP 0 rfl rfl 3 (by decide) (hts (.fieldLink RX3 32 "Rewriterope" "work" "LRewriterope$Text;") (by decide +kernel)) (fun _ h9 => h9) rfl dX3_type_91 ?_
    refine va_get (D := (dC, dI)) (ci := 6) (v := .int 5) (C := RX2) (T := TX2) (N := 2) hx hb hts (by decide +kernel) hown hK hP 2 rfl rfl 1 (by decide) (hts (.fieldLink RX3 65 "Rewriterope$Text" "length" "I") (by decide +kernel)) (fun _ h9 => h9) rfl dX3_type_94 ?_
    refine lv_iadd hx hb dX3_type_97 ?_
    refine lv_topi (fun y101 ey101 => ?_)
    obtain rfl : y101 = 5 := ey101.trans (by decide)
    refine lv_bipush (v := 32) hx hb dX3_type_98 (by decide) ?_
    refine lv_icmp_le (tgt := 113) hx hb dX3_type_100 (by decide) (fun _ => ?_) (fun c9 => absurd (by decide) c9)
    refine lv_aload hx hb dX3_type_113 (lv_at hl 0 rfl) ?_
    refine lv_aload_n hx hb dX3_type_115 rfl (lv_at hl 1 rfl) ?_
    refine va_get (D := (dC, dI)) (ci := 7) (v := .ref h2) (C := RX3) (T := TX3) (N := 9) hx hb hts (by decide +kernel) hown hK hP 0 rfl rfl 3 (by decide) (hts (.fieldLink RX3 32 "Rewriterope" "work" "LRewriterope$Text;") (by decide +kernel)) (fun _ h9 => h9) rfl dX3_type_116 ?_
    refine lv_iconst (v := 0) hx hb dX3_type_119 (by decide) ?_
    refine lv_aload_n hx hb dX3_type_120 rfl (lv_at hl 1 rfl) ?_
    refine va_get (D := (dC, dI)) (ci := 7) (v := .ref h2) (C := RX3) (T := TX3) (N := 9) hx hb hts (by decide +kernel) hown hK hP 0 rfl rfl 3 (by decide) (hts (.fieldLink RX3 32 "Rewriterope" "work" "LRewriterope$Text;") (by decide +kernel)) (fun _ h9 => h9) rfl dX3_type_121 ?_
    refine va_get (D := (dC, dI)) (ci := 6) (v := .int 5) (C := RX2) (T := TX2) (N := 2) hx hb hts (by decide +kernel) hown hK hP 2 rfl rfl 1 (by decide) (hts (.fieldLink RX3 65 "Rewriterope$Text" "length" "I") (by decide +kernel)) (fun _ h9 => h9) rfl dX3_type_124 ?_
    have hPc := hP.sub (ws' := [(h2, .inr (6, [.ref h3, .int 5])), (h3, .inl (k1, 64, .inl f0)), (h4, .inr (6, [.ref h5, .int 0])), (h5, .inl (k2, 64, .inl (fun _ => 0)))]) [2, 3, 4, 5] rfl
    have hDc := hD.sub (ws' := [(h2, .inr (6, [.ref h3, .int 5])), (h3, .inl (k1, 64, .inl f0)), (h4, .inr (6, [.ref h5, .int 0])), (h5, .inl (k2, 64, .inl (fun _ => 0)))]) [2, 3, 4, 5] (by decide) rfl
    have hKc := hK.sub (tys' := [(k1, .byte), (k2, .byte)]) [1, 2] rfl
    have hFc := va_free (wc := [(h2, .inr (6, [.ref h3, .int 5])), (h3, .inl (k1, 64, .inl f0)), (h4, .inr (6, [.ref h5, .int 0])), (h5, .inl (k2, 64, .inl (fun _ => 0)))]) hD hS hA [2, 3, 4, 5] rfl
    refine va_callv (va_runV (As := [.ref h2, .int 0, .int 5]) (rest := []) ⟨hx, hb, hml, hown, hts⟩ (kx_X2_addPart_6 l dC dI h2 h3 h4 h5 k1 k2 H.size f0 f0_t) (cwV 3 hts gX3_type_X2_addPart rfl rfl rfl (by decide +kernel) ⟨Nat.le_of_ble_eq_true rfl, Nat.le_of_ble_eq_true rfl⟩) ⟨fun a U g mk q => by obtain ⟨q0, q1, qP, qK, qD⟩ := q; exact ⟨q0, q1, qP, va_K.moved (u := U) (U := U.calling g mk a) (Vm.Alike.refl U.vm) qK, qD⟩, va_recv hKc hPc (ci := 6) (q0 := 2) rfl rfl, fun U hU hW => ⟨rfl, by rw [hU], by rw [hU]; exact hPc, va_K.moved hW.alike hKc, hDc.weaken (fun _ _ _ _ => trivial)⟩⟩ rfl rfl hl.1 rfl (lv_room (Nat.le_of_ble_eq_true rfl)) dX3_type_127 ⟨Nat.le_of_ble_eq_true rfl, Nat.le_of_ble_eq_true rfl⟩) hS (fun q _ h => hFc q h) hFc (fun u t H1 locs ht hvm hw hB hz1 hk1 hS => ?_)
    obtain ⟨f102, f102_t, hP1, hK1, hD1⟩ := hB
    rw [ht] at hP1
    have hK1 := va_K.moved hvm.symm hK1
    obtain ⟨hP, hD⟩ := va_join (wr := [(h0, .inr (7, [.ref h1, .ref z0, .ref z1, .ref h2, .ref z2, .ref z3, .int 0, .int 0, .int 0])), (h1, .inl (k0, 4, .inr (.inr (.inr (.inr (va_up (va_up (va_up (va_up (fun _ => none) 0 (some h4)) 1 (some h6)) 2 (some h8)) 3 (some h10))))))), (h6, .inr (6, [.ref h7, .int 0])), (h7, .inl (k3, 64, .inl (fun _ => 0))), (h8, .inr (6, [.ref h9, .int 0])), (h9, .inl (k4, 64, .inl (fun _ => 0))), (h10, .inr (6, [.ref h11, .int 0])), (h11, .inl (k5, 64, .inl (fun _ => 0)))]) (w1 := [(h2, .inr (6, [.ref h3, .int 5])), (h3, .inl (k1, 64, .inl f0)), (h4, .inr (6, [.ref h5, .int 5])), (h5, .inl (k2, 64, .inl f102))]) hP hD [2, 3, 4, 5] [0, 1, 6, 7, 8, 9, 10, 11] rfl rfl (by decide) (by decide) hk1 hFc hP1 hD1
    generalize H1 = H at hP hS ⊢
    have hP : va_P (dC, dI) vwCl [(h0, .inr (7, [.ref h1, .ref z0, .ref z1, .ref h2, .ref z2, .ref z3, .int 0, .int 0, .int 0])), (h1, .inl (k0, 4, .inr (.inr (.inr (.inr (va_up (va_up (va_up (va_up (fun _ => none) 0 (some h4)) 1 (some h6)) 2 (some h8)) 3 (some h10))))))), (h6, .inr (6, [.ref h7, .int 0])), (h7, .inl (k3, 64, .inl (fun _ => 0))), (h8, .inr (6, [.ref h9, .int 0])), (h9, .inl (k4, 64, .inl (fun _ => 0))), (h10, .inr (6, [.ref h11, .int 0])), (h11, .inl (k5, 64, .inl (fun _ => 0))), (h2, .inr (6, [.ref h3, .int 5])), (h3, .inl (k1, 64, .inl f0)), (h4, .inr (6, [.ref h5, .int 5])), (h5, .inl (k2, 64, .inl f102))] H := hP
    have hD : va_D A [(h0, .inr (7, [.ref h1, .ref z0, .ref z1, .ref h2, .ref z2, .ref z3, .int 0, .int 0, .int 0])), (h1, .inl (k0, 4, .inr (.inr (.inr (.inr (va_up (va_up (va_up (va_up (fun _ => none) 0 (some h4)) 1 (some h6)) 2 (some h8)) 3 (some h10))))))), (h6, .inr (6, [.ref h7, .int 0])), (h7, .inl (k3, 64, .inl (fun _ => 0))), (h8, .inr (6, [.ref h9, .int 0])), (h9, .inl (k4, 64, .inl (fun _ => 0))), (h10, .inr (6, [.ref h11, .int 0])), (h11, .inl (k5, 64, .inl (fun _ => 0))), (h2, .inr (6, [.ref h3, .int 5])), (h3, .inl (k1, 64, .inl f0)), (h4, .inr (6, [.ref h5, .int 5])), (h5, .inl (k2, 64, .inl f102))] := hD
    refine lv_aload hx hb dX3_type_130 (lv_at hl 0 rfl) ?_
    refine va_get (D := (dC, dI)) (ci := 6) (v := .int 5) (C := RX2) (T := TX2) (N := 2) hx hb hts (by decide +kernel) hown hK hP 10 rfl rfl 1 (by decide) (hts (.fieldLink RX3 65 "Rewriterope$Text" "length" "I") (by decide +kernel)) (fun _ h9 => h9) rfl dX3_type_132 ?_
    refine W.widen (k := 0) (n := 0) (Nat.le_of_ble_eq_true rfl) (Nat.le_of_ble_eq_true rfl) ?_
    have hK := hK.sub (tys' := [(k0, .object "Rewriterope$Text"), (k1, .byte), (k2, .byte), (k3, .byte), (k4, .byte), (k5, .byte)]) [0, 1, 2, 3, 4, 5] rfl
    have hP := hP.sub (ws' := [(h0, .inr (7, [.ref h1, .ref z0, .ref z1, .ref h2, .ref z2, .ref z3, .int 0, .int 0, .int 0]))]) [0] rfl
    have hD := hD.sub (ws' := [(h0, .inr (7, [.ref h1, .ref z0, .ref z1, .ref h2, .ref z2, .ref z3, .int 0, .int 0, .int 0]))]) [0] (by decide) rfl
    exact W.iret (v := 5) hx hb hr (fun t ht hW => ⟨⟨5, (), rfl, rfl, by rw [ht]; exact hP, va_K.moved hW.alike hK, hD⟩, hS.F ht⟩) hS.2.2 dX3_type_135
  · refine lv_aload_n hx hb dX3_type_77 rfl (lv_at hl 0 rfl) ?_
    refine va_get (D := (dC, dI)) (ci := 7) (v := .ref h1) (C := RX3) (T := TX3) (N := 9) hx hb hts (by decide +kernel) hown hK hP 0 rfl rfl 0 (by decide) (hts (.fieldLink RX3 11 "Rewriterope" "ropes" "[LRewriterope$Text;") (by decide +kernel)) (fun _ h9 => h9) rfl dX3_type_78 ?_
    refine lv_iload_n hx hb dX3_type_81 rfl (lv_at hl 1 rfl) ?_
    refine va_aldq (D := (dC, dI)) hx hb hK hP 1 0 rfl rfl (by unfold vp_in; decide) dX3_type_82 ?_
    refine W.eq (g2 := F0 m 83 ls [.ref h6]) rfl ?_
    refine lv_astore (lv' := [(7, .ref h6), (0, .ref h0), (1, .int 1)]) hx hb dX3_type_83 hl (by decide) rfl (fun ls hl => ?_)
    refine lv_aload hx hb dX3_type_85 (lv_at hl 0 rfl) ?_
    refine va_get (D := (dC, dI)) (ci := 6) (v := .int 0) (C := RX2) (T := TX2) (N := 2) hx hb hts (by decide +kernel) hown hK hP 6 rfl rfl 1 (by decide) (hts (.fieldLink RX3 65 "Rewriterope$Text" "length" "I") (by decide +kernel)) (fun _ h9 => h9) rfl dX3_type_87 ?_
    refine lv_aload_n hx hb dX3_type_90 rfl (lv_at hl 1 rfl) ?_
    refine va_get (D := (dC, dI)) (ci := 7) (v := .ref h2) (C := RX3) (T := TX3) (N := 9) hx hb hts (by decide +kernel) hown hK hP 0 rfl rfl 3 (by decide) (hts (.fieldLink RX3 32 "Rewriterope" "work" "LRewriterope$Text;") (by decide +kernel)) (fun _ h9 => h9) rfl dX3_type_91 ?_
    refine va_get (D := (dC, dI)) (ci := 6) (v := .int 5) (C := RX2) (T := TX2) (N := 2) hx hb hts (by decide +kernel) hown hK hP 2 rfl rfl 1 (by decide) (hts (.fieldLink RX3 65 "Rewriterope$Text" "length" "I") (by decide +kernel)) (fun _ h9 => h9) rfl dX3_type_94 ?_
    refine lv_iadd hx hb dX3_type_97 ?_
    refine lv_topi (fun y101 ey101 => ?_)
    obtain rfl : y101 = 5 := ey101.trans (by decide)
    refine lv_bipush (v := 32) hx hb dX3_type_98 (by decide) ?_
    refine lv_icmp_le (tgt := 113) hx hb dX3_type_100 (by decide) (fun _ => ?_) (fun c9 => absurd (by decide) c9)
    refine lv_aload hx hb dX3_type_113 (lv_at hl 0 rfl) ?_
    refine lv_aload_n hx hb dX3_type_115 rfl (lv_at hl 1 rfl) ?_
    refine va_get (D := (dC, dI)) (ci := 7) (v := .ref h2) (C := RX3) (T := TX3) (N := 9) hx hb hts (by decide +kernel) hown hK hP 0 rfl rfl 3 (by decide) (hts (.fieldLink RX3 32 "Rewriterope" "work" "LRewriterope$Text;") (by decide +kernel)) (fun _ h9 => h9) rfl dX3_type_116 ?_
    refine lv_iconst (v := 0) hx hb dX3_type_119 (by decide) ?_
    refine lv_aload_n hx hb dX3_type_120 rfl (lv_at hl 1 rfl) ?_
    refine va_get (D := (dC, dI)) (ci := 7) (v := .ref h2) (C := RX3) (T := TX3) (N := 9) hx hb hts (by decide +kernel) hown hK hP 0 rfl rfl 3 (by decide) (hts (.fieldLink RX3 32 "Rewriterope" "work" "LRewriterope$Text;") (by decide +kernel)) (fun _ h9 => h9) rfl dX3_type_121 ?_
    refine va_get (D := (dC, dI)) (ci := 6) (v := .int 5) (C := RX2) (T := TX2) (N := 2) hx hb hts (by decide +kernel) hown hK hP 2 rfl rfl 1 (by decide) (hts (.fieldLink RX3 65 "Rewriterope$Text" "length" "I") (by decide +kernel)) (fun _ h9 => h9) rfl dX3_type_124 ?_
    have hPc := hP.sub (ws' := [(h2, .inr (6, [.ref h3, .int 5])), (h3, .inl (k1, 64, .inl f0)), (h6, .inr (6, [.ref h7, .int 0])), (h7, .inl (k3, 64, .inl (fun _ => 0)))]) [2, 3, 6, 7] rfl
    have hDc := hD.sub (ws' := [(h2, .inr (6, [.ref h3, .int 5])), (h3, .inl (k1, 64, .inl f0)), (h6, .inr (6, [.ref h7, .int 0])), (h7, .inl (k3, 64, .inl (fun _ => 0)))]) [2, 3, 6, 7] (by decide) rfl
    have hKc := hK.sub (tys' := [(k1, .byte), (k3, .byte)]) [1, 3] rfl
    have hFc := va_free (wc := [(h2, .inr (6, [.ref h3, .int 5])), (h3, .inl (k1, 64, .inl f0)), (h6, .inr (6, [.ref h7, .int 0])), (h7, .inl (k3, 64, .inl (fun _ => 0)))]) hD hS hA [2, 3, 6, 7] rfl
    refine va_callv (va_runV (As := [.ref h2, .int 0, .int 5]) (rest := []) ⟨hx, hb, hml, hown, hts⟩ (kx_X2_addPart_6 l dC dI h2 h3 h6 h7 k1 k3 H.size f0 f0_t) (cwV 3 hts gX3_type_X2_addPart rfl rfl rfl (by decide +kernel) ⟨Nat.le_of_ble_eq_true rfl, Nat.le_of_ble_eq_true rfl⟩) ⟨fun a U g mk q => by obtain ⟨q0, q1, qP, qK, qD⟩ := q; exact ⟨q0, q1, qP, va_K.moved (u := U) (U := U.calling g mk a) (Vm.Alike.refl U.vm) qK, qD⟩, va_recv hKc hPc (ci := 6) (q0 := 2) rfl rfl, fun U hU hW => ⟨rfl, by rw [hU], by rw [hU]; exact hPc, va_K.moved hW.alike hKc, hDc.weaken (fun _ _ _ _ => trivial)⟩⟩ rfl rfl hl.1 rfl (lv_room (Nat.le_of_ble_eq_true rfl)) dX3_type_127 ⟨Nat.le_of_ble_eq_true rfl, Nat.le_of_ble_eq_true rfl⟩) hS (fun q _ h => hFc q h) hFc (fun u t H1 locs ht hvm hw hB hz1 hk1 hS => ?_)
    obtain ⟨f102, f102_t, hP1, hK1, hD1⟩ := hB
    rw [ht] at hP1
    have hK1 := va_K.moved hvm.symm hK1
    obtain ⟨hP, hD⟩ := va_join (wr := [(h0, .inr (7, [.ref h1, .ref z0, .ref z1, .ref h2, .ref z2, .ref z3, .int 0, .int 0, .int 0])), (h1, .inl (k0, 4, .inr (.inr (.inr (.inr (va_up (va_up (va_up (va_up (fun _ => none) 0 (some h4)) 1 (some h6)) 2 (some h8)) 3 (some h10))))))), (h4, .inr (6, [.ref h5, .int 0])), (h5, .inl (k2, 64, .inl (fun _ => 0))), (h8, .inr (6, [.ref h9, .int 0])), (h9, .inl (k4, 64, .inl (fun _ => 0))), (h10, .inr (6, [.ref h11, .int 0])), (h11, .inl (k5, 64, .inl (fun _ => 0)))]) (w1 := [(h2, .inr (6, [.ref h3, .int 5])), (h3, .inl (k1, 64, .inl f0)), (h6, .inr (6, [.ref h7, .int 5])), (h7, .inl (k3, 64, .inl f102))]) hP hD [2, 3, 6, 7] [0, 1, 4, 5, 8, 9, 10, 11] rfl rfl (by decide) (by decide) hk1 hFc hP1 hD1
    generalize H1 = H at hP hS ⊢
    have hP : va_P (dC, dI) vwCl [(h0, .inr (7, [.ref h1, .ref z0, .ref z1, .ref h2, .ref z2, .ref z3, .int 0, .int 0, .int 0])), (h1, .inl (k0, 4, .inr (.inr (.inr (.inr (va_up (va_up (va_up (va_up (fun _ => none) 0 (some h4)) 1 (some h6)) 2 (some h8)) 3 (some h10))))))), (h4, .inr (6, [.ref h5, .int 0])), (h5, .inl (k2, 64, .inl (fun _ => 0))), (h8, .inr (6, [.ref h9, .int 0])), (h9, .inl (k4, 64, .inl (fun _ => 0))), (h10, .inr (6, [.ref h11, .int 0])), (h11, .inl (k5, 64, .inl (fun _ => 0))), (h2, .inr (6, [.ref h3, .int 5])), (h3, .inl (k1, 64, .inl f0)), (h6, .inr (6, [.ref h7, .int 5])), (h7, .inl (k3, 64, .inl f102))] H := hP
    have hD : va_D A [(h0, .inr (7, [.ref h1, .ref z0, .ref z1, .ref h2, .ref z2, .ref z3, .int 0, .int 0, .int 0])), (h1, .inl (k0, 4, .inr (.inr (.inr (.inr (va_up (va_up (va_up (va_up (fun _ => none) 0 (some h4)) 1 (some h6)) 2 (some h8)) 3 (some h10))))))), (h4, .inr (6, [.ref h5, .int 0])), (h5, .inl (k2, 64, .inl (fun _ => 0))), (h8, .inr (6, [.ref h9, .int 0])), (h9, .inl (k4, 64, .inl (fun _ => 0))), (h10, .inr (6, [.ref h11, .int 0])), (h11, .inl (k5, 64, .inl (fun _ => 0))), (h2, .inr (6, [.ref h3, .int 5])), (h3, .inl (k1, 64, .inl f0)), (h6, .inr (6, [.ref h7, .int 5])), (h7, .inl (k3, 64, .inl f102))] := hD
    refine lv_aload hx hb dX3_type_130 (lv_at hl 0 rfl) ?_
    refine va_get (D := (dC, dI)) (ci := 6) (v := .int 5) (C := RX2) (T := TX2) (N := 2) hx hb hts (by decide +kernel) hown hK hP 10 rfl rfl 1 (by decide) (hts (.fieldLink RX3 65 "Rewriterope$Text" "length" "I") (by decide +kernel)) (fun _ h9 => h9) rfl dX3_type_132 ?_
    refine W.widen (k := 0) (n := 0) (Nat.le_of_ble_eq_true rfl) (Nat.le_of_ble_eq_true rfl) ?_
    have hK := hK.sub (tys' := [(k0, .object "Rewriterope$Text"), (k1, .byte), (k2, .byte), (k3, .byte), (k4, .byte), (k5, .byte)]) [0, 1, 2, 3, 4, 5] rfl
    have hP := hP.sub (ws' := [(h0, .inr (7, [.ref h1, .ref z0, .ref z1, .ref h2, .ref z2, .ref z3, .int 0, .int 0, .int 0]))]) [0] rfl
    have hD := hD.sub (ws' := [(h0, .inr (7, [.ref h1, .ref z0, .ref z1, .ref h2, .ref z2, .ref z3, .int 0, .int 0, .int 0]))]) [0] (by decide) rfl
    exact W.iret (v := 5) hx hb hr (fun t ht hW => ⟨⟨5, (), rfl, rfl, by rw [ht]; exact hP, va_K.moved hW.alike hK, hD⟩, hS.F ht⟩) hS.2.2 dX3_type_135
  · refine lv_aload_n hx hb dX3_type_77 rfl (lv_at hl 0 rfl) ?_
    refine va_get (D := (dC, dI)) (ci := 7) (v := .ref h1) (C := RX3) (T := TX3) (N := 9) hx hb hts (by decide +kernel) hown hK hP 0 rfl rfl 0 (by decide) (hts (.fieldLink RX3 11 "Rewriterope" "ropes" "[LRewriterope$Text;") (by decide +kernel)) (fun _ h9 => h9) rfl dX3_type_78 ?_
    refine lv_iload_n hx hb dX3_type_81 rfl (lv_at hl 1 rfl) ?_
    refine va_aldq (D := (dC, dI)) hx hb hK hP 1 0 rfl rfl (by unfold vp_in; decide) dX3_type_82 ?_
    refine W.eq (g2 := F0 m 83 ls [.ref h8]) rfl ?_
    refine lv_astore (lv' := [(7, .ref h8), (0, .ref h0), (1, .int 2)]) hx hb dX3_type_83 hl (by decide) rfl (fun ls hl => ?_)
    refine lv_aload hx hb dX3_type_85 (lv_at hl 0 rfl) ?_
    refine va_get (D := (dC, dI)) (ci := 6) (v := .int 0) (C := RX2) (T := TX2) (N := 2) hx hb hts (by decide +kernel) hown hK hP 8 rfl rfl 1 (by decide) (hts (.fieldLink RX3 65 "Rewriterope$Text" "length" "I") (by decide +kernel)) (fun _ h9 => h9) rfl dX3_type_87 ?_
    refine lv_aload_n hx hb dX3_type_90 rfl (lv_at hl 1 rfl) ?_
    refine va_get (D := (dC, dI)) (ci := 7) (v := .ref h2) (C := RX3) (T := TX3) (N := 9) hx hb hts (by decide +kernel) hown hK hP 0 rfl rfl 3 (by decide) (hts (.fieldLink RX3 32 "Rewriterope" "work" "LRewriterope$Text;") (by decide +kernel)) (fun _ h9 => h9) rfl dX3_type_91 ?_
    refine va_get (D := (dC, dI)) (ci := 6) (v := .int 5) (C := RX2) (T := TX2) (N := 2) hx hb hts (by decide +kernel) hown hK hP 2 rfl rfl 1 (by decide) (hts (.fieldLink RX3 65 "Rewriterope$Text" "length" "I") (by decide +kernel)) (fun _ h9 => h9) rfl dX3_type_94 ?_
    refine lv_iadd hx hb dX3_type_97 ?_
    refine lv_topi (fun y101 ey101 => ?_)
    obtain rfl : y101 = 5 := ey101.trans (by decide)
    refine lv_bipush (v := 32) hx hb dX3_type_98 (by decide) ?_
    refine lv_icmp_le (tgt := 113) hx hb dX3_type_100 (by decide) (fun _ => ?_) (fun c9 => absurd (by decide) c9)
    refine lv_aload hx hb dX3_type_113 (lv_at hl 0 rfl) ?_
    refine lv_aload_n hx hb dX3_type_115 rfl (lv_at hl 1 rfl) ?_
    refine va_get (D := (dC, dI)) (ci := 7) (v := .ref h2) (C := RX3) (T := TX3) (N := 9) hx hb hts (by decide +kernel) hown hK hP 0 rfl rfl 3 (by decide) (hts (.fieldLink RX3 32 "Rewriterope" "work" "LRewriterope$Text;") (by decide +kernel)) (fun _ h9 => h9) rfl dX3_type_116 ?_
    refine lv_iconst (v := 0) hx hb dX3_type_119 (by decide) ?_
    refine lv_aload_n hx hb dX3_type_120 rfl (lv_at hl 1 rfl) ?_
    refine va_get (D := (dC, dI)) (ci := 7) (v := .ref h2) (C := RX3) (T := TX3) (N := 9) hx hb hts (by decide +kernel) hown hK hP 0 rfl rfl 3 (by decide) (hts (.fieldLink RX3 32 "Rewriterope" "work" "LRewriterope$Text;") (by decide +kernel)) (fun _ h9 => h9) rfl dX3_type_121 ?_
    refine va_get (D := (dC, dI)) (ci := 6) (v := .int 5) (C := RX2) (T := TX2) (N := 2) hx hb hts (by decide +kernel) hown hK hP 2 rfl rfl 1 (by decide) (hts (.fieldLink RX3 65 "Rewriterope$Text" "length" "I") (by decide +kernel)) (fun _ h9 => h9) rfl dX3_type_124 ?_
    have hPc := hP.sub (ws' := [(h2, .inr (6, [.ref h3, .int 5])), (h3, .inl (k1, 64, .inl f0)), (h8, .inr (6, [.ref h9, .int 0])), (h9, .inl (k4, 64, .inl (fun _ => 0)))]) [2, 3, 8, 9] rfl
    have hDc := hD.sub (ws' := [(h2, .inr (6, [.ref h3, .int 5])), (h3, .inl (k1, 64, .inl f0)), (h8, .inr (6, [.ref h9, .int 0])), (h9, .inl (k4, 64, .inl (fun _ => 0)))]) [2, 3, 8, 9] (by decide) rfl
    have hKc := hK.sub (tys' := [(k1, .byte), (k4, .byte)]) [1, 4] rfl
    have hFc := va_free (wc := [(h2, .inr (6, [.ref h3, .int 5])), (h3, .inl (k1, 64, .inl f0)), (h8, .inr (6, [.ref h9, .int 0])), (h9, .inl (k4, 64, .inl (fun _ => 0)))]) hD hS hA [2, 3, 8, 9] rfl
    refine va_callv (va_runV (As := [.ref h2, .int 0, .int 5]) (rest := []) ⟨hx, hb, hml, hown, hts⟩ (kx_X2_addPart_6 l dC dI h2 h3 h8 h9 k1 k4 H.size f0 f0_t) (cwV 3 hts gX3_type_X2_addPart rfl rfl rfl (by decide +kernel) ⟨Nat.le_of_ble_eq_true rfl, Nat.le_of_ble_eq_true rfl⟩) ⟨fun a U g mk q => by obtain ⟨q0, q1, qP, qK, qD⟩ := q; exact ⟨q0, q1, qP, va_K.moved (u := U) (U := U.calling g mk a) (Vm.Alike.refl U.vm) qK, qD⟩, va_recv hKc hPc (ci := 6) (q0 := 2) rfl rfl, fun U hU hW => ⟨rfl, by rw [hU], by rw [hU]; exact hPc, va_K.moved hW.alike hKc, hDc.weaken (fun _ _ _ _ => trivial)⟩⟩ rfl rfl hl.1 rfl (lv_room (Nat.le_of_ble_eq_true rfl)) dX3_type_127 ⟨Nat.le_of_ble_eq_true rfl, Nat.le_of_ble_eq_true rfl⟩) hS (fun q _ h => hFc q h) hFc (fun u t H1 locs ht hvm hw hB hz1 hk1 hS => ?_)
    obtain ⟨f102, f102_t, hP1, hK1, hD1⟩ := hB
    rw [ht] at hP1
    have hK1 := va_K.moved hvm.symm hK1
    obtain ⟨hP, hD⟩ := va_join (wr := [(h0, .inr (7, [.ref h1, .ref z0, .ref z1, .ref h2, .ref z2, .ref z3, .int 0, .int 0, .int 0])), (h1, .inl (k0, 4, .inr (.inr (.inr (.inr (va_up (va_up (va_up (va_up (fun _ => none) 0 (some h4)) 1 (some h6)) 2 (some h8)) 3 (some h10))))))), (h4, .inr (6, [.ref h5, .int 0])), (h5, .inl (k2, 64, .inl (fun _ => 0))), (h6, .inr (6, [.ref h7, .int 0])), (h7, .inl (k3, 64, .inl (fun _ => 0))), (h10, .inr (6, [.ref h11, .int 0])), (h11, .inl (k5, 64, .inl (fun _ => 0)))]) (w1 := [(h2, .inr (6, [.ref h3, .int 5])), (h3, .inl (k1, 64, .inl f0)), (h8, .inr (6, [.ref h9, .int 5])), (h9, .inl (k4, 64, .inl f102))]) hP hD [2, 3, 8, 9] [0, 1, 4, 5, 6, 7, 10, 11] rfl rfl (by decide) (by decide) hk1 hFc hP1 hD1
    generalize H1 = H at hP hS ⊢
    have hP : va_P (dC, dI) vwCl [(h0, .inr (7, [.ref h1, .ref z0, .ref z1, .ref h2, .ref z2, .ref z3, .int 0, .int 0, .int 0])), (h1, .inl (k0, 4, .inr (.inr (.inr (.inr (va_up (va_up (va_up (va_up (fun _ => none) 0 (some h4)) 1 (some h6)) 2 (some h8)) 3 (some h10))))))), (h4, .inr (6, [.ref h5, .int 0])), (h5, .inl (k2, 64, .inl (fun _ => 0))), (h6, .inr (6, [.ref h7, .int 0])), (h7, .inl (k3, 64, .inl (fun _ => 0))), (h10, .inr (6, [.ref h11, .int 0])), (h11, .inl (k5, 64, .inl (fun _ => 0))), (h2, .inr (6, [.ref h3, .int 5])), (h3, .inl (k1, 64, .inl f0)), (h8, .inr (6, [.ref h9, .int 5])), (h9, .inl (k4, 64, .inl f102))] H := hP
    have hD : va_D A [(h0, .inr (7, [.ref h1, .ref z0, .ref z1, .ref h2, .ref z2, .ref z3, .int 0, .int 0, .int 0])), (h1, .inl (k0, 4, .inr (.inr (.inr (.inr (va_up (va_up (va_up (va_up (fun _ => none) 0 (some h4)) 1 (some h6)) 2 (some h8)) 3 (some h10))))))), (h4, .inr (6, [.ref h5, .int 0])), (h5, .inl (k2, 64, .inl (fun _ => 0))), (h6, .inr (6, [.ref h7, .int 0])), (h7, .inl (k3, 64, .inl (fun _ => 0))), (h10, .inr (6, [.ref h11, .int 0])), (h11, .inl (k5, 64, .inl (fun _ => 0))), (h2, .inr (6, [.ref h3, .int 5])), (h3, .inl (k1, 64, .inl f0)), (h8, .inr (6, [.ref h9, .int 5])), (h9, .inl (k4, 64, .inl f102))] := hD
    refine lv_aload hx hb dX3_type_130 (lv_at hl 0 rfl) ?_
    refine va_get (D := (dC, dI)) (ci := 6) (v := .int 5) (C := RX2) (T := TX2) (N := 2) hx hb hts (by decide +kernel) hown hK hP 10 rfl rfl 1 (by decide) (hts (.fieldLink RX3 65 "Rewriterope$Text" "length" "I") (by decide +kernel)) (fun _ h9 => h9) rfl dX3_type_132 ?_
    refine W.widen (k := 0) (n := 0) (Nat.le_of_ble_eq_true rfl) (Nat.le_of_ble_eq_true rfl) ?_
    have hK := hK.sub (tys' := [(k0, .object "Rewriterope$Text"), (k1, .byte), (k2, .byte), (k3, .byte), (k4, .byte), (k5, .byte)]) [0, 1, 2, 3, 4, 5] rfl
    have hP := hP.sub (ws' := [(h0, .inr (7, [.ref h1, .ref z0, .ref z1, .ref h2, .ref z2, .ref z3, .int 0, .int 0, .int 0]))]) [0] rfl
    have hD := hD.sub (ws' := [(h0, .inr (7, [.ref h1, .ref z0, .ref z1, .ref h2, .ref z2, .ref z3, .int 0, .int 0, .int 0]))]) [0] (by decide) rfl
    exact W.iret (v := 5) hx hb hr (fun t ht hW => ⟨⟨5, (), rfl, rfl, by rw [ht]; exact hP, va_K.moved hW.alike hK, hD⟩, hS.F ht⟩) hS.2.2 dX3_type_135
  · refine lv_aload_n hx hb dX3_type_77 rfl (lv_at hl 0 rfl) ?_
    refine va_get (D := (dC, dI)) (ci := 7) (v := .ref h1) (C := RX3) (T := TX3) (N := 9) hx hb hts (by decide +kernel) hown hK hP 0 rfl rfl 0 (by decide) (hts (.fieldLink RX3 11 "Rewriterope" "ropes" "[LRewriterope$Text;") (by decide +kernel)) (fun _ h9 => h9) rfl dX3_type_78 ?_
    refine lv_iload_n hx hb dX3_type_81 rfl (lv_at hl 1 rfl) ?_
    refine va_aldq (D := (dC, dI)) hx hb hK hP 1 0 rfl rfl (by unfold vp_in; decide) dX3_type_82 ?_
    refine W.eq (g2 := F0 m 83 ls [.ref h10]) rfl ?_
    refine lv_astore (lv' := [(7, .ref h10), (0, .ref h0), (1, .int 3)]) hx hb dX3_type_83 hl (by decide) rfl (fun ls hl => ?_)
    refine lv_aload hx hb dX3_type_85 (lv_at hl 0 rfl) ?_
    refine va_get (D := (dC, dI)) (ci := 6) (v := .int 0) (C := RX2) (T := TX2) (N := 2) hx hb hts (by decide +kernel) hown hK hP 10 rfl rfl 1 (by decide) (hts (.fieldLink RX3 65 "Rewriterope$Text" "length" "I") (by decide +kernel)) (fun _ h9 => h9) rfl dX3_type_87 ?_
    refine lv_aload_n hx hb dX3_type_90 rfl (lv_at hl 1 rfl) ?_
    refine va_get (D := (dC, dI)) (ci := 7) (v := .ref h2) (C := RX3) (T := TX3) (N := 9) hx hb hts (by decide +kernel) hown hK hP 0 rfl rfl 3 (by decide) (hts (.fieldLink RX3 32 "Rewriterope" "work" "LRewriterope$Text;") (by decide +kernel)) (fun _ h9 => h9) rfl dX3_type_91 ?_
    refine va_get (D := (dC, dI)) (ci := 6) (v := .int 5) (C := RX2) (T := TX2) (N := 2) hx hb hts (by decide +kernel) hown hK hP 2 rfl rfl 1 (by decide) (hts (.fieldLink RX3 65 "Rewriterope$Text" "length" "I") (by decide +kernel)) (fun _ h9 => h9) rfl dX3_type_94 ?_
    refine lv_iadd hx hb dX3_type_97 ?_
    refine lv_topi (fun y101 ey101 => ?_)
    obtain rfl : y101 = 5 := ey101.trans (by decide)
    refine lv_bipush (v := 32) hx hb dX3_type_98 (by decide) ?_
    refine lv_icmp_le (tgt := 113) hx hb dX3_type_100 (by decide) (fun _ => ?_) (fun c9 => absurd (by decide) c9)
    refine lv_aload hx hb dX3_type_113 (lv_at hl 0 rfl) ?_
    refine lv_aload_n hx hb dX3_type_115 rfl (lv_at hl 1 rfl) ?_
    refine va_get (D := (dC, dI)) (ci := 7) (v := .ref h2) (C := RX3) (T := TX3) (N := 9) hx hb hts (by decide +kernel) hown hK hP 0 rfl rfl 3 (by decide) (hts (.fieldLink RX3 32 "Rewriterope" "work" "LRewriterope$Text;") (by decide +kernel)) (fun _ h9 => h9) rfl dX3_type_116 ?_
    refine lv_iconst (v := 0) hx hb dX3_type_119 (by decide) ?_
    refine lv_aload_n hx hb dX3_type_120 rfl (lv_at hl 1 rfl) ?_
    refine va_get (D := (dC, dI)) (ci := 7) (v := .ref h2) (C := RX3) (T := TX3) (N := 9) hx hb hts (by decide +kernel) hown hK hP 0 rfl rfl 3 (by decide) (hts (.fieldLink RX3 32 "Rewriterope" "work" "LRewriterope$Text;") (by decide +kernel)) (fun _ h9 => h9) rfl dX3_type_121 ?_
    refine va_get (D := (dC, dI)) (ci := 6) (v := .int 5) (C := RX2) (T := TX2) (N := 2) hx hb hts (by decide +kernel) hown hK hP 2 rfl rfl 1 (by decide) (hts (.fieldLink RX3 65 "Rewriterope$Text" "length" "I") (by decide +kernel)) (fun _ h9 => h9) rfl dX3_type_124 ?_
    have hPc := hP.sub (ws' := [(h2, .inr (6, [.ref h3, .int 5])), (h3, .inl (k1, 64, .inl f0)), (h10, .inr (6, [.ref h11, .int 0])), (h11, .inl (k5, 64, .inl (fun _ => 0)))]) [2, 3, 10, 11] rfl
    have hDc := hD.sub (ws' := [(h2, .inr (6, [.ref h3, .int 5])), (h3, .inl (k1, 64, .inl f0)), (h10, .inr (6, [.ref h11, .int 0])), (h11, .inl (k5, 64, .inl (fun _ => 0)))]) [2, 3, 10, 11] (by decide) rfl
    have hKc := hK.sub (tys' := [(k1, .byte), (k5, .byte)]) [1, 5] rfl
    have hFc := va_free (wc := [(h2, .inr (6, [.ref h3, .int 5])), (h3, .inl (k1, 64, .inl f0)), (h10, .inr (6, [.ref h11, .int 0])), (h11, .inl (k5, 64, .inl (fun _ => 0)))]) hD hS hA [2, 3, 10, 11] rfl
    refine va_callv (va_runV (As := [.ref h2, .int 0, .int 5]) (rest := []) ⟨hx, hb, hml, hown, hts⟩ (kx_X2_addPart_6 l dC dI h2 h3 h10 h11 k1 k5 H.size f0 f0_t) (cwV 3 hts gX3_type_X2_addPart rfl rfl rfl (by decide +kernel) ⟨Nat.le_of_ble_eq_true rfl, Nat.le_of_ble_eq_true rfl⟩) ⟨fun a U g mk q => by obtain ⟨q0, q1, qP, qK, qD⟩ := q; exact ⟨q0, q1, qP, va_K.moved (u := U) (U := U.calling g mk a) (Vm.Alike.refl U.vm) qK, qD⟩, va_recv hKc hPc (ci := 6) (q0 := 2) rfl rfl, fun U hU hW => ⟨rfl, by rw [hU], by rw [hU]; exact hPc, va_K.moved hW.alike hKc, hDc.weaken (fun _ _ _ _ => trivial)⟩⟩ rfl rfl hl.1 rfl (lv_room (Nat.le_of_ble_eq_true rfl)) dX3_type_127 ⟨Nat.le_of_ble_eq_true rfl, Nat.le_of_ble_eq_true rfl⟩) hS (fun q _ h => hFc q h) hFc (fun u t H1 locs ht hvm hw hB hz1 hk1 hS => ?_)
    obtain ⟨f102, f102_t, hP1, hK1, hD1⟩ := hB
    rw [ht] at hP1
    have hK1 := va_K.moved hvm.symm hK1
    obtain ⟨hP, hD⟩ := va_join (wr := [(h0, .inr (7, [.ref h1, .ref z0, .ref z1, .ref h2, .ref z2, .ref z3, .int 0, .int 0, .int 0])), (h1, .inl (k0, 4, .inr (.inr (.inr (.inr (va_up (va_up (va_up (va_up (fun _ => none) 0 (some h4)) 1 (some h6)) 2 (some h8)) 3 (some h10))))))), (h4, .inr (6, [.ref h5, .int 0])), (h5, .inl (k2, 64, .inl (fun _ => 0))), (h6, .inr (6, [.ref h7, .int 0])), (h7, .inl (k3, 64, .inl (fun _ => 0))), (h8, .inr (6, [.ref h9, .int 0])), (h9, .inl (k4, 64, .inl (fun _ => 0)))]) (w1 := [(h2, .inr (6, [.ref h3, .int 5])), (h3, .inl (k1, 64, .inl f0)), (h10, .inr (6, [.ref h11, .int 5])), (h11, .inl (k5, 64, .inl f102))]) hP hD [2, 3, 10, 11] [0, 1, 4, 5, 6, 7, 8, 9] rfl rfl (by decide) (by decide) hk1 hFc hP1 hD1
    generalize H1 = H at hP hS ⊢
    have hP : va_P (dC, dI) vwCl [(h0, .inr (7, [.ref h1, .ref z0, .ref z1, .ref h2, .ref z2, .ref z3, .int 0, .int 0, .int 0])), (h1, .inl (k0, 4, .inr (.inr (.inr (.inr (va_up (va_up (va_up (va_up (fun _ => none) 0 (some h4)) 1 (some h6)) 2 (some h8)) 3 (some h10))))))), (h4, .inr (6, [.ref h5, .int 0])), (h5, .inl (k2, 64, .inl (fun _ => 0))), (h6, .inr (6, [.ref h7, .int 0])), (h7, .inl (k3, 64, .inl (fun _ => 0))), (h8, .inr (6, [.ref h9, .int 0])), (h9, .inl (k4, 64, .inl (fun _ => 0))), (h2, .inr (6, [.ref h3, .int 5])), (h3, .inl (k1, 64, .inl f0)), (h10, .inr (6, [.ref h11, .int 5])), (h11, .inl (k5, 64, .inl f102))] H := hP
    have hD : va_D A [(h0, .inr (7, [.ref h1, .ref z0, .ref z1, .ref h2, .ref z2, .ref z3, .int 0, .int 0, .int 0])), (h1, .inl (k0, 4, .inr (.inr (.inr (.inr (va_up (va_up (va_up (va_up (fun _ => none) 0 (some h4)) 1 (some h6)) 2 (some h8)) 3 (some h10))))))), (h4, .inr (6, [.ref h5, .int 0])), (h5, .inl (k2, 64, .inl (fun _ => 0))), (h6, .inr (6, [.ref h7, .int 0])), (h7, .inl (k3, 64, .inl (fun _ => 0))), (h8, .inr (6, [.ref h9, .int 0])), (h9, .inl (k4, 64, .inl (fun _ => 0))), (h2, .inr (6, [.ref h3, .int 5])), (h3, .inl (k1, 64, .inl f0)), (h10, .inr (6, [.ref h11, .int 5])), (h11, .inl (k5, 64, .inl f102))] := hD
    refine lv_aload hx hb dX3_type_130 (lv_at hl 0 rfl) ?_
    refine va_get (D := (dC, dI)) (ci := 6) (v := .int 5) (C := RX2) (T := TX2) (N := 2) hx hb hts (by decide +kernel) hown hK hP 10 rfl rfl 1 (by decide) (hts (.fieldLink RX3 65 "Rewriterope$Text" "length" "I") (by decide +kernel)) (fun _ h9 => h9) rfl dX3_type_132 ?_
    refine W.widen (k := 0) (n := 0) (Nat.le_of_ble_eq_true rfl) (Nat.le_of_ble_eq_true rfl) ?_
    have hK := hK.sub (tys' := [(k0, .object "Rewriterope$Text"), (k1, .byte), (k2, .byte), (k3, .byte), (k4, .byte), (k5, .byte)]) [0, 1, 2, 3, 4, 5] rfl
    have hP := hP.sub (ws' := [(h0, .inr (7, [.ref h1, .ref z0, .ref z1, .ref h2, .ref z2, .ref z3, .int 0, .int 0, .int 0]))]) [0] rfl
    have hD := hD.sub (ws' := [(h0, .inr (7, [.ref h1, .ref z0, .ref z1, .ref h2, .ref z2, .ref z3, .int 0, .int 0, .int 0]))]) [0] (by decide) rfl
    exact W.iret (v := 5) hx hb hr (fun t ht hW => ⟨⟨5, (), rfl, rfl, by rw [ht]; exact hP, va_K.moved hW.alike hK, hD⟩, hS.F ht⟩) hS.2.2 dX3_type_135
set_option maxHeartbeats 4000000 in
set_option maxRecDepth 100000 in
theorem kx_X2_add_5 (l : Launch) (dC : Nat → ClassId) (dI : Nat → Nat → Nat) (h0 : Nat) (z0 : Nat) (sz : Nat) : Met l yX2_add wsX2_add ({ frames := 0, cells := 0, slots := 0, locals := 0 }) (va_Pc [.ref h0, .int (-1)] (fun U => U.heap.size = sz ∧ va_P (dC, dI) vwCl [(h0, .inr (6, [.ref z0, .int 0]))] U.heap ∧ va_K (dC, dI) vwCl [] U ∧ va_D (fun _ => True) [(h0, .inr (6, [.ref z0, .int 0]))])) (va_Qv (fun _ : Unit => True) (fun (_ : Unit) (t : State) => va_P (dC, dI) vwCl [(h0, .inr (6, [.ref z0, .int 0]))] t.heap ∧ va_K (dC, dI) vwCl [] t ∧ va_D (va_A [(h0, .inr (6, [.ref z0, .int 0]))] sz) [(h0, .inr (6, [.ref z0, .int 0]))]) (va_A [(h0, .inr (6, [.ref z0, .int 0]))] sz)) 0 0 (va_A [(h0, .inr (6, [.ref z0, .int 0]))] sz) := by
  refine Met.ofW (cc := cX2_add) (maxL := 2) (ret := none) (by decide) rfl ?_
  intro p e s m args below meth c s₁ B hml hv
  obtain ⟨rfl, hsz, hP, hK, hD0⟩ := hv
  have hx := B.exec
  have hb := B.bytes
  have hr := B.returns
  have hts := atoms_spec (ws := wsX2_add) B.pre
  have hown : s.vm.findClass RX2 = some m.cls := findClass_of_methodNamed B.named
  have hlocks := B.notSynchronized
  subst hsz
  have hD := hD0.self (sz := s.heap.size)
  generalize hAe : va_A [(h0, .inr (6, [.ref z0, .int 0]))] s.heap.size = A at hD ⊢
  have hA : ∀ q : Nat, s.heap.size ≤ q → A q := fun q h => by rw [← hAe]; exact Or.inr h
  have hS : va_S A s.heap s.heap [] := va_S.rf
  have hP : va_P (dC, dI) vwCl [(h0, .inr (6, [.ref z0, .int 0]))] s.heap := hP
  have hl := lv_entry ([.ref h0, .int (-1)]) (n := 2) (Nat.le_of_ble_eq_true rfl)
  rw [lg_entry_eq]
  generalize (lg_sl ([.ref h0, .int (-1)]) ++ List.replicate (2 - (lg_sl ([.ref h0, .int (-1)])).length) Slot.unset).toArray = ls at hl ⊢
  have hl : lv_has ls 2 [(0, .ref h0), (1, .int (-1))] := hl
  refine lv_iload_n hx hb dX2_add_0 rfl (lv_at hl 1 rfl) ?_
  refine lv_iconst (v := (-1)) hx hb dX2_add_1 (by decide) ?_
  refine lv_icmp_eq (tgt := 35) hx hb dX2_add_2 (by decide) (fun _ => ?_) (fun c9 => absurd (by decide) c9)
  exact W.vret hx hb hr (fun t ht hW => ⟨⟨(), rfl, trivial, by rw [ht]; exact hP, va_K.moved hW.alike hK, hD⟩, hS.F ht⟩) hS.2.2 dX2_add_35
set_option maxHeartbeats 4000000 in
set_option maxRecDepth 100000 in
theorem kx_X2_add_6 (l : Launch) (dC : Nat → ClassId) (dI : Nat → Nat → Nat) (h0 : Nat) (h1 : Nat) (k0 : ClassId) (sz : Nat) (i0 : Int32) (i0_l : (0 : Int) ≤ i0.toInt) (i0_u : i0.toInt ≤ (3 : Int)) : Met l yX2_add wsX2_add ({ frames := 0, cells := 0, slots := 0, locals := 0 }) (va_Pc [.ref h0, .int i0] (fun U => U.heap.size = sz ∧ va_P (dC, dI) vwCl [(h0, .inr (6, [.ref h1, .int 0])), (h1, .inl (k0, 64, .inl (fun _ => 0)))] U.heap ∧ va_K (dC, dI) vwCl [(k0, .byte)] U ∧ va_D (fun _ => True) [(h0, .inr (6, [.ref h1, .int 0])), (h1, .inl (k0, 64, .inl (fun _ => 0)))])) (va_Qv (fun _ : Unit => True) (fun (_ : Unit) (t : State) => ∃ f1 : Nat → Int32, sb_Fit f1 ∧ va_P (dC, dI) vwCl [(h0, .inr (6, [.ref h1, .int 1])), (h1, .inl (k0, 64, .inl f1))] t.heap ∧ va_K (dC, dI) vwCl [(k0, .byte)] t ∧ va_D (va_A [(h0, .inr (6, [.ref h1, .int 0])), (h1, .inl (k0, 64, .inl (fun _ => 0)))] sz) [(h0, .inr (6, [.ref h1, .int 1])), (h1, .inl (k0, 64, .inl f1))]) (va_A [(h0, .inr (6, [.ref h1, .int 0])), (h1, .inl (k0, 64, .inl (fun _ => 0)))] sz)) 0 0 (va_A [(h0, .inr (6, [.ref h1, .int 0])), (h1, .inl (k0, 64, .inl (fun _ => 0)))] sz) := by
  refine Met.ofW (cc := cX2_add) (maxL := 2) (ret := none) (by decide) rfl ?_
  intro p e s m args below meth c s₁ B hml hv
  obtain ⟨rfl, hsz, hP, hK, hD0⟩ := hv
  have hx := B.exec
  have hb := B.bytes
  have hr := B.returns
  have hts := atoms_spec (ws := wsX2_add) B.pre
  have hown : s.vm.findClass RX2 = some m.cls := findClass_of_methodNamed B.named
  have hlocks := B.notSynchronized
  subst hsz
  have hD := hD0.self (sz := s.heap.size)
  generalize hAe : va_A [(h0, .inr (6, [.ref h1, .int 0])), (h1, .inl (k0, 64, .inl (fun _ => 0)))] s.heap.size = A at hD ⊢
  have hA : ∀ q : Nat, s.heap.size ≤ q → A q := fun q h => by rw [← hAe]; exact Or.inr h
  have hS : va_S A s.heap s.heap [] := va_S.rf
  have hP : va_P (dC, dI) vwCl [(h0, .inr (6, [.ref h1, .int 0])), (h1, .inl (k0, 64, .inl (fun _ => 0)))] s.heap := hP
  have hl := lv_entry ([.ref h0, .int i0]) (n := 2) (Nat.le_of_ble_eq_true rfl)
  rw [lg_entry_eq]
  generalize (lg_sl ([.ref h0, .int i0]) ++ List.replicate (2 - (lg_sl ([.ref h0, .int i0])).length) Slot.unset).toArray = ls at hl ⊢
  have hl : lv_has ls 2 [(0, .ref h0), (1, .int i0)] := hl
  refine lv_iload_n hx hb dX2_add_0 rfl (lv_at hl 1 rfl) ?_
  refine lv_iconst (v := (-1)) hx hb dX2_add_1 (by decide) ?_
  refine lv_icmp_eq (tgt := 35) hx hb dX2_add_2 (by decide) (fun c9 => absurd c9 (fun c8 => absurd (congrArg Int32.toInt c8) (by rw [show ((-1) : Int32).toInt = (-1) from by decide]; omega))) (fun _ => ?_)
  refine lv_aload_n hx hb dX2_add_5 rfl (lv_at hl 0 rfl) ?_
  refine va_get (D := (dC, dI)) (ci := 6) (v := .int 0) (C := RX2) (T := TX2) (N := 2) hx hb hts (by decide +kernel) hown hK hP 0 rfl rfl 1 (by decide) (hts (.fieldLink RX2 15 "Rewriterope$Text" "length" "I") (by decide +kernel)) (fun _ h9 => h9) rfl dX2_add_6 ?_
  refine lv_bipush (v := 64) hx hb dX2_add_9 (by decide) ?_
  refine lv_icmp_ge (tgt := 35) hx hb dX2_add_11 (by decide) (fun c9 => absurd c9 (by decide)) (fun _ => ?_)
  refine lv_aload_n hx hb dX2_add_14 rfl (lv_at hl 0 rfl) ?_
  refine va_get (D := (dC, dI)) (ci := 6) (v := .ref h1) (C := RX2) (T := TX2) (N := 2) hx hb hts (by decide +kernel) hown hK hP 0 rfl rfl 0 (by decide) (hts (.fieldLink RX2 11 "Rewriterope$Text" "letters" "[B") (by decide +kernel)) (fun _ h9 => h9) rfl dX2_add_15 ?_
  refine lv_aload_n hx hb dX2_add_18 rfl (lv_at hl 0 rfl) ?_
  refine va_get (D := (dC, dI)) (ci := 6) (v := .int 0) (C := RX2) (T := TX2) (N := 2) hx hb hts (by decide +kernel) hown hK hP 0 rfl rfl 1 (by decide) (hts (.fieldLink RX2 15 "Rewriterope$Text" "length" "I") (by decide +kernel)) (fun _ h9 => h9) rfl dX2_add_19 ?_
  refine lv_iload_n hx hb dX2_add_22 rfl (lv_at hl 1 rfl) ?_
  refine lv_i2b (v := i0) hx hb dX2_add_23 (kz_i2b i0_l i0_u) ?_
  refine va_bast (D := (dC, dI)) hx hb hK hP hD hS 1 0 rfl rfl (by unfold vp_in; decide) dX2_add_24 (fun H locs hP hD hS => ?_)
  rw [kz_nar i0_l i0_u] at hP hD
  have hP : va_P (dC, dI) vwCl [(h0, .inr (6, [.ref h1, .int 0])), (h1, .inl (k0, 64, .inl (upd (fun _ => 0) 0 i0)))] H := hP
  have hD : va_D A [(h0, .inr (6, [.ref h1, .int 0])), (h1, .inl (k0, 64, .inl (upd (fun _ => 0) 0 i0)))] := hD
  obtain ⟨f1, hf1⟩ : ∃ f : Nat → Int32, f = upd (fun _ => 0) 0 i0 := ⟨_, rfl⟩
  have f1_t : sb_Fit f1 := by rw [hf1]; exact sb_fitU sb_fit0 (kz_fit4 i0_l i0_u)
  rw [← hf1] at hP hD
  refine lv_aload_n hx hb dX2_add_25 rfl (lv_at hl 0 rfl) ?_
  refine lv_dup hx hb dX2_add_26 rfl ?_
  refine va_get (D := (dC, dI)) (ci := 6) (v := .int 0) (C := RX2) (T := TX2) (N := 2) hx hb hts (by decide +kernel) hown hK hP 0 rfl rfl 1 (by decide) (hts (.fieldLink RX2 15 "Rewriterope$Text" "length" "I") (by decide +kernel)) (fun _ h9 => h9) rfl dX2_add_27 ?_
  refine lv_iconst (v := 1) hx hb dX2_add_30 (by decide) ?_
  refine lv_iadd hx hb dX2_add_31 ?_
  refine lv_topi (fun y2 ey2 => ?_)
  obtain rfl : y2 = 1 := ey2.trans (by decide)
  refine va_put (D := (dC, dI)) (ci := 6) (v := .int 1) (ty := .int) (C := RX2) (T := TX2) (N := 2) hx hb hts (by decide +kernel) tyX2 tyX2_ok nmX2 hown hK hP hD hS 0 rfl rfl 1 (by decide) (hts (.fieldLink RX2 15 "Rewriterope$Text" "length" "I") (by decide +kernel)) (fun _ h9 => h9) rfl (by decide +kernel) rfl rfl (Nat.le_of_ble_eq_true rfl) dX2_add_32 (fun H locs hP hD hS => ?_)
  have hP : va_P (dC, dI) vwCl [(h0, .inr (6, [.ref h1, .int 1])), (h1, .inl (k0, 64, .inl f1))] H := hP
  have hD : va_D A [(h0, .inr (6, [.ref h1, .int 1])), (h1, .inl (k0, 64, .inl f1))] := hD
  exact W.vret hx hb hr (fun t ht hW => ⟨⟨(), rfl, trivial, f1, f1_t, by rw [ht]; exact hP, va_K.moved hW.alike hK, hD⟩, hS.F ht⟩) hS.2.2 dX2_add_35
set_option maxHeartbeats 8000000 in
set_option maxRecDepth 100000 in
theorem kx_X3_type_h40 {l : Launch} {dC : Nat → ClassId} {dI : Nat → Nat → Nat} {h0 h1 h2 h3 h4 h5 h6 h7 h8 h9 h10 h11 z0 z1 z2 z3 : Nat} {k0 k1 k2 k3 k4 k5 : ClassId} {rp l5 R : Int32} {p : Program} {e : Env} {s : State} {m : MethodId} {args : Array Value} {below : List Frame} {meth : Method} {c : Code} {A : Nat → Prop} {H : Heap} {locs : List Loc} {ls : Array Slot} (hR : kz_ct 0 [l5] = R) (rp_l : (0 : Int) ≤ rp.toInt) (rp_u : rp.toInt ≤ (3 : Int)) (l5_l : (-1 : Int) ≤ l5.toInt) (l5_u : l5.toInt ≤ (3 : Int)) (hx : p.tables.exec = Jvm.exec) (hb : c.code = cX3_type) (hr : meth.sig.returnType = some .int) (hml : c.maxLocals = 8) (hown : s.vm.findClass RX3 = some m.cls) (hts : ∀ w ∈ wsX3_type, w.before args s = true) (hlocks : meth.locks = false) (hA : ∀ q : Nat, s.heap.size ≤ q → A q) (hS : va_S A s.heap H locs) (hK : va_K (dC, dI) vwCl [(k0, .object "Rewriterope$Text"), (k1, .byte), (k2, .byte), (k3, .byte), (k4, .byte), (k5, .byte)] s) (hP : va_P (dC, dI) vwCl [(h0, .inr (7, [.ref h1, .ref z0, .ref z1, .ref h2, .ref z2, .ref z3, .int 0, .int 0, .int 0])), (h1, .inl (k0, 4, .inr (.inr (.inr (.inr (va_up (va_up (va_up (va_up (fun _ => none) 0 (some h4)) 1 (some h6)) 2 (some h8)) 3 (some h10))))))), (h2, .inr (6, [.ref h3, .int 0])), (h3, .inl (k1, 64, .inl (fun _ => 0))), (h4, .inr (6, [.ref h5, .int 0])), (h5, .inl (k2, 64, .inl (fun _ => 0))), (h6, .inr (6, [.ref h7, .int 0])), (h7, .inl (k3, 64, .inl (fun _ => 0))), (h8, .inr (6, [.ref h9, .int 0])), (h9, .inl (k4, 64, .inl (fun _ => 0))), (h10, .inr (6, [.ref h11, .int 0])), (h11, .inl (k5, 64, .inl (fun _ => 0)))] H) (hD : va_D A [(h0, .inr (7, [.ref h1, .ref z0, .ref z1, .ref h2, .ref z2, .ref z3, .int 0, .int 0, .int 0])), (h1, .inl (k0, 4, .inr (.inr (.inr (.inr (va_up (va_up (va_up (va_up (fun _ => none) 0 (some h4)) 1 (some h6)) 2 (some h8)) 3 (some h10))))))), (h2, .inr (6, [.ref h3, .int 0])), (h3, .inl (k1, 64, .inl (fun _ => 0))), (h4, .inr (6, [.ref h5, .int 0])), (h5, .inl (k2, 64, .inl (fun _ => 0))), (h6, .inr (6, [.ref h7, .int 0])), (h7, .inl (k3, 64, .inl (fun _ => 0))), (h8, .inr (6, [.ref h9, .int 0])), (h9, .inl (k4, 64, .inl (fun _ => 0))), (h10, .inr (6, [.ref h11, .int 0])), (h11, .inl (k5, 64, .inl (fun _ => 0)))]) (hl : lv_has ls 8 [(0, .ref h0), (1, .int rp), (6, .int l5)]) : W p l e (headSpec wsX3_type ({ frames := 2, cells := 0, slots := 0, locals := 84 })).room s m args below meth c H locs 0 0 (MQ below (va_Qi (fun (r : Int32) (_ : Unit) => r = R) (fun (_ : Unit) (t : State) => va_P (dC, dI) vwCl [(h0, .inr (7, [.ref h1, .ref z0, .ref z1, .ref h2, .ref z2, .ref z3, .int 0, .int 0, .int 0]))] t.heap ∧ va_K (dC, dI) vwCl [(k0, .object "Rewriterope$Text"), (k1, .byte), (k2, .byte), (k3, .byte), (k4, .byte), (k5, .byte)] t ∧ va_D A [(h0, .inr (7, [.ref h1, .ref z0, .ref z1, .ref h2, .ref z2, .ref z3, .int 0, .int 0, .int 0]))]) A) args s 0 0 A) (F0 m 68 ls []) := by
  rcases Int.lt_or_le l5.toInt 0 with r9 | r9
  · obtain rfl : l5 = -1 := Int32.toInt_inj.mp (by rw [show (-1 : Int32).toInt = -1 from by decide]; omega)
    have hR : kz_ct 0 [] = R := kz_ct_n.symm.trans hR
    refine lv_aload_n hx hb dX3_type_68 rfl (lv_at hl 0 rfl) ?_
    refine va_get (D := (dC, dI)) (ci := 7) (v := .ref h2) (C := RX3) (T := TX3) (N := 9) hx hb hts (by decide +kernel) hown hK hP 0 rfl rfl 3 (by decide) (hts (.fieldLink RX3 32 "Rewriterope" "work" "LRewriterope$Text;") (by decide +kernel)) (fun _ h9 => h9) rfl dX3_type_69 ?_
    refine lv_iload hx hb dX3_type_72 (lv_at hl 2 rfl) ?_
    have hPc := hP.sub (ws' := [(h2, .inr (6, [.ref h3, .int 0]))]) [2] rfl
    have hDc := hD.sub (ws' := [(h2, .inr (6, [.ref h3, .int 0]))]) [2] (by decide) rfl
    have hKc := hK.sub (tys' := []) [] rfl
    have hFc := va_free (wc := [(h2, .inr (6, [.ref h3, .int 0]))]) hD hS hA [2] rfl
    refine va_callv (va_runV (As := [.int (-1)]) (rest := []) ⟨hx, hb, hml, hown, hts⟩ (kx_X2_add_5 l dC dI h2 h3 H.size) (cwV 1 hts gX3_type_X2_add rfl rfl rfl (by decide +kernel) ⟨Nat.le_of_ble_eq_true rfl, Nat.le_of_ble_eq_true rfl⟩) ⟨fun a U g mk q => by obtain ⟨q0, q1, qP, qK, qD⟩ := q; exact ⟨q0, q1, qP, va_K.moved (u := U) (U := U.calling g mk a) (Vm.Alike.refl U.vm) qK, qD⟩, va_recv hKc hPc (ci := 6) (q0 := 0) rfl rfl, fun U hU hW => ⟨rfl, by rw [hU], by rw [hU]; exact hPc, va_K.moved hW.alike hKc, hDc.weaken (fun _ _ _ _ => trivial)⟩⟩ rfl rfl hl.1 rfl (lv_room (Nat.le_of_ble_eq_true rfl)) dX3_type_74 ⟨Nat.le_of_ble_eq_true rfl, Nat.le_of_ble_eq_true rfl⟩) hS (fun q _ h => hFc q h) hFc (fun u t H1 locs ht hvm hw hB hz1 hk1 hS => ?_)
    obtain ⟨hP1, hK1, hD1⟩ := hB
    rw [ht] at hP1
    have hK1 := va_K.moved hvm.symm hK1
    obtain ⟨hP, hD⟩ := va_join (wr := [(h0, .inr (7, [.ref h1, .ref z0, .ref z1, .ref h2, .ref z2, .ref z3, .int 0, .int 0, .int 0])), (h1, .inl (k0, 4, .inr (.inr (.inr (.inr (va_up (va_up (va_up (va_up (fun _ => none) 0 (some h4)) 1 (some h6)) 2 (some h8)) 3 (some h10))))))), (h3, .inl (k1, 64, .inl (fun _ => 0))), (h4, .inr (6, [.ref h5, .int 0])), (h5, .inl (k2, 64, .inl (fun _ => 0))), (h6, .inr (6, [.ref h7, .int 0])), (h7, .inl (k3, 64, .inl (fun _ => 0))), (h8, .inr (6, [.ref h9, .int 0])), (h9, .inl (k4, 64, .inl (fun _ => 0))), (h10, .inr (6, [.ref h11, .int 0])), (h11, .inl (k5, 64, .inl (fun _ => 0)))]) (w1 := [(h2, .inr (6, [.ref h3, .int 0]))]) hP hD [2] [0, 1, 3, 4, 5, 6, 7, 8, 9, 10, 11] rfl rfl (by decide) (by decide) hk1 hFc hP1 hD1
    generalize H1 = H at hP hS ⊢
    have hP : va_P (dC, dI) vwCl [(h0, .inr (7, [.ref h1, .ref z0, .ref z1, .ref h2, .ref z2, .ref z3, .int 0, .int 0, .int 0])), (h1, .inl (k0, 4, .inr (.inr (.inr (.inr (va_up (va_up (va_up (va_up (fun _ => none) 0 (some h4)) 1 (some h6)) 2 (some h8)) 3 (some h10))))))), (h3, .inl (k1, 64, .inl (fun _ => 0))), (h4, .inr (6, [.ref h5, .int 0])), (h5, .inl (k2, 64, .inl (fun _ => 0))), (h6, .inr (6, [.ref h7, .int 0])), (h7, .inl (k3, 64, .inl (fun _ => 0))), (h8, .inr (6, [.ref h9, .int 0])), (h9, .inl (k4, 64, .inl (fun _ => 0))), (h10, .inr (6, [.ref h11, .int 0])), (h11, .inl (k5, 64, .inl (fun _ => 0))), (h2, .inr (6, [.ref h3, .int 0]))] H := hP
    have hD : va_D A [(h0, .inr (7, [.ref h1, .ref z0, .ref z1, .ref h2, .ref z2, .ref z3, .int 0, .int 0, .int 0])), (h1, .inl (k0, 4, .inr (.inr (.inr (.inr (va_up (va_up (va_up (va_up (fun _ => none) 0 (some h4)) 1 (some h6)) 2 (some h8)) 3 (some h10))))))), (h3, .inl (k1, 64, .inl (fun _ => 0))), (h4, .inr (6, [.ref h5, .int 0])), (h5, .inl (k2, 64, .inl (fun _ => 0))), (h6, .inr (6, [.ref h7, .int 0])), (h7, .inl (k3, 64, .inl (fun _ => 0))), (h8, .inr (6, [.ref h9, .int 0])), (h9, .inl (k4, 64, .inl (fun _ => 0))), (h10, .inr (6, [.ref h11, .int 0])), (h11, .inl (k5, 64, .inl (fun _ => 0))), (h2, .inr (6, [.ref h3, .int 0]))] := hD
    have hP := hP.sub (ws' := [(h0, .inr (7, [.ref h1, .ref z0, .ref z1, .ref h2, .ref z2, .ref z3, .int 0, .int 0, .int 0])), (h1, .inl (k0, 4, .inr (.inr (.inr (.inr (va_up (va_up (va_up (va_up (fun _ => none) 0 (some h4)) 1 (some h6)) 2 (some h8)) 3 (some h10))))))), (h2, .inr (6, [.ref h3, .int 0])), (h3, .inl (k1, 64, .inl (fun _ => 0))), (h4, .inr (6, [.ref h5, .int 0])), (h5, .inl (k2, 64, .inl (fun _ => 0))), (h6, .inr (6, [.ref h7, .int 0])), (h7, .inl (k3, 64, .inl (fun _ => 0))), (h8, .inr (6, [.ref h9, .int 0])), (h9, .inl (k4, 64, .inl (fun _ => 0))), (h10, .inr (6, [.ref h11, .int 0])), (h11, .inl (k5, 64, .inl (fun _ => 0)))]) [0, 1, 11, 2, 3, 4, 5, 6, 7, 8, 9, 10] rfl
    have hD := hD.sub (ws' := [(h0, .inr (7, [.ref h1, .ref z0, .ref z1, .ref h2, .ref z2, .ref z3, .int 0, .int 0, .int 0])), (h1, .inl (k0, 4, .inr (.inr (.inr (.inr (va_up (va_up (va_up (va_up (fun _ => none) 0 (some h4)) 1 (some h6)) 2 (some h8)) 3 (some h10))))))), (h2, .inr (6, [.ref h3, .int 0])), (h3, .inl (k1, 64, .inl (fun _ => 0))), (h4, .inr (6, [.ref h5, .int 0])), (h5, .inl (k2, 64, .inl (fun _ => 0))), (h6, .inr (6, [.ref h7, .int 0])), (h7, .inl (k3, 64, .inl (fun _ => 0))), (h8, .inr (6, [.ref h9, .int 0])), (h9, .inl (k4, 64, .inl (fun _ => 0))), (h10, .inr (6, [.ref h11, .int 0])), (h11, .inl (k5, 64, .inl (fun _ => 0)))]) [0, 1, 11, 2, 3, 4, 5, 6, 7, 8, 9, 10] (by decide) rfl
    have hK := hK.sub (tys' := [(k0, .object "Rewriterope$Text"), (k1, .byte), (k2, .byte), (k3, .byte), (k4, .byte), (k5, .byte)]) [0, 1, 2, 3, 4, 5] rfl
    have hl := lv_sub hl [0, 1] (show lv_pick [(0, .ref h0), (1, .int rp), (6, .int (-1))] [0, 1] = [(0, .ref h0), (1, .int rp)] from rfl)
    exact kx_X3_type_h50 hR rp_l rp_u hx hb hr hml hown hts hlocks hA hS hK hP hD hl
  · have l5_l : (0 : Int) ≤ l5.toInt := r9
    have hR : kz_ct 1 [] = R := (kz_ct_g l5_l).symm.trans hR
    refine lv_aload_n hx hb dX3_type_68 rfl (lv_at hl 0 rfl) ?_
    refine va_get (D := (dC, dI)) (ci := 7) (v := .ref h2) (C := RX3) (T := TX3) (N := 9) hx hb hts (by decide +kernel) hown hK hP 0 rfl rfl 3 (by decide) (hts (.fieldLink RX3 32 "Rewriterope" "work" "LRewriterope$Text;") (by decide +kernel)) (fun _ h9 => h9) rfl dX3_type_69 ?_
    refine lv_iload hx hb dX3_type_72 (lv_at hl 2 rfl) ?_
    have hPc := hP.sub (ws' := [(h2, .inr (6, [.ref h3, .int 0])), (h3, .inl (k1, 64, .inl (fun _ => 0)))]) [2, 3] rfl
    have hDc := hD.sub (ws' := [(h2, .inr (6, [.ref h3, .int 0])), (h3, .inl (k1, 64, .inl (fun _ => 0)))]) [2, 3] (by decide) rfl
    have hKc := hK.sub (tys' := [(k1, .byte)]) [1] rfl
    have hFc := va_free (wc := [(h2, .inr (6, [.ref h3, .int 0])), (h3, .inl (k1, 64, .inl (fun _ => 0)))]) hD hS hA [2, 3] rfl
    refine va_callv (va_runV (As := [.int l5]) (rest := []) ⟨hx, hb, hml, hown, hts⟩ (kx_X2_add_6 l dC dI h2 h3 k1 H.size l5 l5_l l5_u) (cwV 1 hts gX3_type_X2_add rfl rfl rfl (by decide +kernel) ⟨Nat.le_of_ble_eq_true rfl, Nat.le_of_ble_eq_true rfl⟩) ⟨fun a U g mk q => by obtain ⟨q0, q1, qP, qK, qD⟩ := q; exact ⟨q0, q1, qP, va_K.moved (u := U) (U := U.calling g mk a) (Vm.Alike.refl U.vm) qK, qD⟩, va_recv hKc hPc (ci := 6) (q0 := 0) rfl rfl, fun U hU hW => ⟨rfl, by rw [hU], by rw [hU]; exact hPc, va_K.moved hW.alike hKc, hDc.weaken (fun _ _ _ _ => trivial)⟩⟩ rfl rfl hl.1 rfl (lv_room (Nat.le_of_ble_eq_true rfl)) dX3_type_74 ⟨Nat.le_of_ble_eq_true rfl, Nat.le_of_ble_eq_true rfl⟩) hS (fun q _ h => hFc q h) hFc (fun u t H1 locs ht hvm hw hB hz1 hk1 hS => ?_)
    obtain ⟨f101, f101_t, hP1, hK1, hD1⟩ := hB
    rw [ht] at hP1
    have hK1 := va_K.moved hvm.symm hK1
    obtain ⟨hP, hD⟩ := va_join (wr := [(h0, .inr (7, [.ref h1, .ref z0, .ref z1, .ref h2, .ref z2, .ref z3, .int 0, .int 0, .int 0])), (h1, .inl (k0, 4, .inr (.inr (.inr (.inr (va_up (va_up (va_up (va_up (fun _ => none) 0 (some h4)) 1 (some h6)) 2 (some h8)) 3 (some h10))))))), (h4, .inr (6, [.ref h5, .int 0])), (h5, .inl (k2, 64, .inl (fun _ => 0))), (h6, .inr (6, [.ref h7, .int 0])), (h7, .inl (k3, 64, .inl (fun _ => 0))), (h8, .inr (6, [.ref h9, .int 0])), (h9, .inl (k4, 64, .inl (fun _ => 0))), (h10, .inr (6, [.ref h11, .int 0])), (h11, .inl (k5, 64, .inl (fun _ => 0)))]) (w1 := [(h2, .inr (6, [.ref h3, .int 1])), (h3, .inl (k1, 64, .inl f101))]) hP hD [2, 3] [0, 1, 4, 5, 6, 7, 8, 9, 10, 11] rfl rfl (by decide) (by decide) hk1 hFc hP1 hD1
    generalize H1 = H at hP hS ⊢
    have hP : va_P (dC, dI) vwCl [(h0, .inr (7, [.ref h1, .ref z0, .ref z1, .ref h2, .ref z2, .ref z3, .int 0, .int 0, .int 0])), (h1, .inl (k0, 4, .inr (.inr (.inr (.inr (va_up (va_up (va_up (va_up (fun _ => none) 0 (some h4)) 1 (some h6)) 2 (some h8)) 3 (some h10))))))), (h4, .inr (6, [.ref h5, .int 0])), (h5, .inl (k2, 64, .inl (fun _ => 0))), (h6, .inr (6, [.ref h7, .int 0])), (h7, .inl (k3, 64, .inl (fun _ => 0))), (h8, .inr (6, [.ref h9, .int 0])), (h9, .inl (k4, 64, .inl (fun _ => 0))), (h10, .inr (6, [.ref h11, .int 0])), (h11, .inl (k5, 64, .inl (fun _ => 0))), (h2, .inr (6, [.ref h3, .int 1])), (h3, .inl (k1, 64, .inl f101))] H := hP
    have hD : va_D A [(h0, .inr (7, [.ref h1, .ref z0, .ref z1, .ref h2, .ref z2, .ref z3, .int 0, .int 0, .int 0])), (h1, .inl (k0, 4, .inr (.inr (.inr (.inr (va_up (va_up (va_up (va_up (fun _ => none) 0 (some h4)) 1 (some h6)) 2 (some h8)) 3 (some h10))))))), (h4, .inr (6, [.ref h5, .int 0])), (h5, .inl (k2, 64, .inl (fun _ => 0))), (h6, .inr (6, [.ref h7, .int 0])), (h7, .inl (k3, 64, .inl (fun _ => 0))), (h8, .inr (6, [.ref h9, .int 0])), (h9, .inl (k4, 64, .inl (fun _ => 0))), (h10, .inr (6, [.ref h11, .int 0])), (h11, .inl (k5, 64, .inl (fun _ => 0))), (h2, .inr (6, [.ref h3, .int 1])), (h3, .inl (k1, 64, .inl f101))] := hD
    have hP := hP.sub (ws' := [(h0, .inr (7, [.ref h1, .ref z0, .ref z1, .ref h2, .ref z2, .ref z3, .int 0, .int 0, .int 0])), (h1, .inl (k0, 4, .inr (.inr (.inr (.inr (va_up (va_up (va_up (va_up (fun _ => none) 0 (some h4)) 1 (some h6)) 2 (some h8)) 3 (some h10))))))), (h2, .inr (6, [.ref h3, .int 1])), (h3, .inl (k1, 64, .inl f101)), (h4, .inr (6, [.ref h5, .int 0])), (h5, .inl (k2, 64, .inl (fun _ => 0))), (h6, .inr (6, [.ref h7, .int 0])), (h7, .inl (k3, 64, .inl (fun _ => 0))), (h8, .inr (6, [.ref h9, .int 0])), (h9, .inl (k4, 64, .inl (fun _ => 0))), (h10, .inr (6, [.ref h11, .int 0])), (h11, .inl (k5, 64, .inl (fun _ => 0)))]) [0, 1, 10, 11, 2, 3, 4, 5, 6, 7, 8, 9] rfl
    have hD := hD.sub (ws' := [(h0, .inr (7, [.ref h1, .ref z0, .ref z1, .ref h2, .ref z2, .ref z3, .int 0, .int 0, .int 0])), (h1, .inl (k0, 4, .inr (.inr (.inr (.inr (va_up (va_up (va_up (va_up (fun _ => none) 0 (some h4)) 1 (some h6)) 2 (some h8)) 3 (some h10))))))), (h2, .inr (6, [.ref h3, .int 1])), (h3, .inl (k1, 64, .inl f101)), (h4, .inr (6, [.ref h5, .int 0])), (h5, .inl (k2, 64, .inl (fun _ => 0))), (h6, .inr (6, [.ref h7, .int 0])), (h7, .inl (k3, 64, .inl (fun _ => 0))), (h8, .inr (6, [.ref h9, .int 0])), (h9, .inl (k4, 64, .inl (fun _ => 0))), (h10, .inr (6, [.ref h11, .int 0])), (h11, .inl (k5, 64, .inl (fun _ => 0)))]) [0, 1, 10, 11, 2, 3, 4, 5, 6, 7, 8, 9] (by decide) rfl
    have hK := hK.sub (tys' := [(k0, .object "Rewriterope$Text"), (k1, .byte), (k2, .byte), (k3, .byte), (k4, .byte), (k5, .byte)]) [0, 1, 2, 3, 4, 5] rfl
    have hl := lv_sub hl [0, 1] (show lv_pick [(0, .ref h0), (1, .int rp), (6, .int l5)] [0, 1] = [(0, .ref h0), (1, .int rp)] from rfl)
    exact kx_X3_type_h51 f101_t hR rp_l rp_u hx hb hr hml hown hts hlocks hA hS hK hP hD hl
set_option maxHeartbeats 4000000 in
set_option maxRecDepth 100000 in
theorem kx_X2_add_7 (l : Launch) (dC : Nat → ClassId) (dI : Nat → Nat → Nat) (h0 : Nat) (z0 : Nat) (sz : Nat) : Met l yX2_add wsX2_add ({ frames := 0, cells := 0, slots := 0, locals := 0 }) (va_Pc [.ref h0, .int (-1)] (fun U => U.heap.size = sz ∧ va_P (dC, dI) vwCl [(h0, .inr (6, [.ref z0, .int 1]))] U.heap ∧ va_K (dC, dI) vwCl [] U ∧ va_D (fun _ => True) [(h0, .inr (6, [.ref z0, .int 1]))])) (va_Qv (fun _ : Unit => True) (fun (_ : Unit) (t : State) => va_P (dC, dI) vwCl [(h0, .inr (6, [.ref z0, .int 1]))] t.heap ∧ va_K (dC, dI) vwCl [] t ∧ va_D (va_A [(h0, .inr (6, [.ref z0, .int 1]))] sz) [(h0, .inr (6, [.ref z0, .int 1]))]) (va_A [(h0, .inr (6, [.ref z0, .int 1]))] sz)) 0 0 (va_A [(h0, .inr (6, [.ref z0, .int 1]))] sz) := by
  refine Met.ofW (cc := cX2_add) (maxL := 2) (ret := none) (by decide) rfl ?_
  intro p e s m args below meth c s₁ B hml hv
  obtain ⟨rfl, hsz, hP, hK, hD0⟩ := hv
  have hx := B.exec
  have hb := B.bytes
  have hr := B.returns
  have hts := atoms_spec (ws := wsX2_add) B.pre
  have hown : s.vm.findClass RX2 = some m.cls := findClass_of_methodNamed B.named
  have hlocks := B.notSynchronized
  subst hsz
  have hD := hD0.self (sz := s.heap.size)
  generalize hAe : va_A [(h0, .inr (6, [.ref z0, .int 1]))] s.heap.size = A at hD ⊢
  have hA : ∀ q : Nat, s.heap.size ≤ q → A q := fun q h => by rw [← hAe]; exact Or.inr h
  have hS : va_S A s.heap s.heap [] := va_S.rf
  have hP : va_P (dC, dI) vwCl [(h0, .inr (6, [.ref z0, .int 1]))] s.heap := hP
  have hl := lv_entry ([.ref h0, .int (-1)]) (n := 2) (Nat.le_of_ble_eq_true rfl)
  rw [lg_entry_eq]
  generalize (lg_sl ([.ref h0, .int (-1)]) ++ List.replicate (2 - (lg_sl ([.ref h0, .int (-1)])).length) Slot.unset).toArray = ls at hl ⊢
  have hl : lv_has ls 2 [(0, .ref h0), (1, .int (-1))] := hl
  refine lv_iload_n hx hb dX2_add_0 rfl (lv_at hl 1 rfl) ?_
  refine lv_iconst (v := (-1)) hx hb dX2_add_1 (by decide) ?_
  refine lv_icmp_eq (tgt := 35) hx hb dX2_add_2 (by decide) (fun _ => ?_) (fun c9 => absurd (by decide) c9)
  exact W.vret hx hb hr (fun t ht hW => ⟨⟨(), rfl, trivial, by rw [ht]; exact hP, va_K.moved hW.alike hK, hD⟩, hS.F ht⟩) hS.2.2 dX2_add_35
set_option maxHeartbeats 4000000 in
set_option maxRecDepth 100000 in
theorem kx_X2_add_8 (l : Launch) (dC : Nat → ClassId) (dI : Nat → Nat → Nat) (h0 : Nat) (h1 : Nat) (k0 : ClassId) (sz : Nat) (f0 : Nat → Int32) (f0_t : sb_Fit f0) (i0 : Int32) (i0_l : (0 : Int) ≤ i0.toInt) (i0_u : i0.toInt ≤ (3 : Int)) : Met l yX2_add wsX2_add ({ frames := 0, cells := 0, slots := 0, locals := 0 }) (va_Pc [.ref h0, .int i0] (fun U => U.heap.size = sz ∧ va_P (dC, dI) vwCl [(h0, .inr (6, [.ref h1, .int 1])), (h1, .inl (k0, 64, .inl f0))] U.heap ∧ va_K (dC, dI) vwCl [(k0, .byte)] U ∧ va_D (fun _ => True) [(h0, .inr (6, [.ref h1, .int 1])), (h1, .inl (k0, 64, .inl f0))])) (va_Qv (fun _ : Unit => True) (fun (_ : Unit) (t : State) => ∃ f1 : Nat → Int32, sb_Fit f1 ∧ va_P (dC, dI) vwCl [(h0, .inr (6, [.ref h1, .int 2])), (h1, .inl (k0, 64, .inl f1))] t.heap ∧ va_K (dC, dI) vwCl [(k0, .byte)] t ∧ va_D (va_A [(h0, .inr (6, [.ref h1, .int 1])), (h1, .inl (k0, 64, .inl f0))] sz) [(h0, .inr (6, [.ref h1, .int 2])), (h1, .inl (k0, 64, .inl f1))]) (va_A [(h0, .inr (6, [.ref h1, .int 1])), (h1, .inl (k0, 64, .inl f0))] sz)) 0 0 (va_A [(h0, .inr (6, [.ref h1, .int 1])), (h1, .inl (k0, 64, .inl f0))] sz) := by
  refine Met.ofW (cc := cX2_add) (maxL := 2) (ret := none) (by decide) rfl ?_
  intro p e s m args below meth c s₁ B hml hv
  obtain ⟨rfl, hsz, hP, hK, hD0⟩ := hv
  have hx := B.exec
  have hb := B.bytes
  have hr := B.returns
  have hts := atoms_spec (ws := wsX2_add) B.pre
  have hown : s.vm.findClass RX2 = some m.cls := findClass_of_methodNamed B.named
  have hlocks := B.notSynchronized
  subst hsz
  have hD := hD0.self (sz := s.heap.size)
  generalize hAe : va_A [(h0, .inr (6, [.ref h1, .int 1])), (h1, .inl (k0, 64, .inl f0))] s.heap.size = A at hD ⊢
  have hA : ∀ q : Nat, s.heap.size ≤ q → A q := fun q h => by rw [← hAe]; exact Or.inr h
  have hS : va_S A s.heap s.heap [] := va_S.rf
  have hP : va_P (dC, dI) vwCl [(h0, .inr (6, [.ref h1, .int 1])), (h1, .inl (k0, 64, .inl f0))] s.heap := hP
  have hl := lv_entry ([.ref h0, .int i0]) (n := 2) (Nat.le_of_ble_eq_true rfl)
  rw [lg_entry_eq]
  generalize (lg_sl ([.ref h0, .int i0]) ++ List.replicate (2 - (lg_sl ([.ref h0, .int i0])).length) Slot.unset).toArray = ls at hl ⊢
  have hl : lv_has ls 2 [(0, .ref h0), (1, .int i0)] := hl
  refine lv_iload_n hx hb dX2_add_0 rfl (lv_at hl 1 rfl) ?_
  refine lv_iconst (v := (-1)) hx hb dX2_add_1 (by decide) ?_
  refine lv_icmp_eq (tgt := 35) hx hb dX2_add_2 (by decide) (fun c9 => absurd c9 (fun c8 => absurd (congrArg Int32.toInt c8) (by rw [show ((-1) : Int32).toInt = (-1) from by decide]; omega))) (fun _ => ?_)
  refine lv_aload_n hx hb dX2_add_5 rfl (lv_at hl 0 rfl) ?_
  refine va_get (D := (dC, dI)) (ci := 6) (v := .int 1) (C := RX2) (T := TX2) (N := 2) hx hb hts (by decide +kernel) hown hK hP 0 rfl rfl 1 (by decide) (hts (.fieldLink RX2 15 "Rewriterope$Text" "length" "I") (by decide +kernel)) (fun _ h9 => h9) rfl dX2_add_6 ?_
  refine lv_bipush (v := 64) hx hb dX2_add_9 (by decide) ?_
  refine lv_icmp_ge (tgt := 35) hx hb dX2_add_11 (by decide) (fun c9 => absurd c9 (by decide)) (fun _ => ?_)
  refine lv_aload_n hx hb dX2_add_14 rfl (lv_at hl 0 rfl) ?_
  refine va_get (D := (dC, dI)) (ci := 6) (v := .ref h1) (C := RX2) (T := TX2) (N := 2) hx hb hts (by decide +kernel) hown hK hP 0 rfl rfl 0 (by decide) (hts (.fieldLink RX2 11 "Rewriterope$Text" "letters" "[B") (by decide +kernel)) (fun _ h9 => h9) rfl dX2_add_15 ?_
  refine lv_aload_n hx hb dX2_add_18 rfl (lv_at hl 0 rfl) ?_
  refine va_get (D := (dC, dI)) (ci := 6) (v := .int 1) (C := RX2) (T := TX2) (N := 2) hx hb hts (by decide +kernel) hown hK hP 0 rfl rfl 1 (by decide) (hts (.fieldLink RX2 15 "Rewriterope$Text" "length" "I") (by decide +kernel)) (fun _ h9 => h9) rfl dX2_add_19 ?_
  refine lv_iload_n hx hb dX2_add_22 rfl (lv_at hl 1 rfl) ?_
  refine lv_i2b (v := i0) hx hb dX2_add_23 (kz_i2b i0_l i0_u) ?_
  refine va_bast (D := (dC, dI)) hx hb hK hP hD hS 1 0 rfl rfl (by unfold vp_in; decide) dX2_add_24 (fun H locs hP hD hS => ?_)
  rw [kz_nar i0_l i0_u] at hP hD
  have hP : va_P (dC, dI) vwCl [(h0, .inr (6, [.ref h1, .int 1])), (h1, .inl (k0, 64, .inl (upd f0 1 i0)))] H := hP
  have hD : va_D A [(h0, .inr (6, [.ref h1, .int 1])), (h1, .inl (k0, 64, .inl (upd f0 1 i0)))] := hD
  obtain ⟨f1, hf1⟩ : ∃ f : Nat → Int32, f = upd f0 1 i0 := ⟨_, rfl⟩
  have f1_t : sb_Fit f1 := by rw [hf1]; exact sb_fitU f0_t (kz_fit4 i0_l i0_u)
  rw [← hf1] at hP hD
  refine lv_aload_n hx hb dX2_add_25 rfl (lv_at hl 0 rfl) ?_
  refine lv_dup hx hb dX2_add_26 rfl ?_
  refine va_get (D := (dC, dI)) (ci := 6) (v := .int 1) (C := RX2) (T := TX2) (N := 2) hx hb hts (by decide +kernel) hown hK hP 0 rfl rfl 1 (by decide) (hts (.fieldLink RX2 15 "Rewriterope$Text" "length" "I") (by decide +kernel)) (fun _ h9 => h9) rfl dX2_add_27 ?_
  refine lv_iconst (v := 1) hx hb dX2_add_30 (by decide) ?_
  refine lv_iadd hx hb dX2_add_31 ?_
  refine lv_topi (fun y2 ey2 => ?_)
  obtain rfl : y2 = 2 := ey2.trans (by decide)
  refine va_put (D := (dC, dI)) (ci := 6) (v := .int 2) (ty := .int) (C := RX2) (T := TX2) (N := 2) hx hb hts (by decide +kernel) tyX2 tyX2_ok nmX2 hown hK hP hD hS 0 rfl rfl 1 (by decide) (hts (.fieldLink RX2 15 "Rewriterope$Text" "length" "I") (by decide +kernel)) (fun _ h9 => h9) rfl (by decide +kernel) rfl rfl (Nat.le_of_ble_eq_true rfl) dX2_add_32 (fun H locs hP hD hS => ?_)
  have hP : va_P (dC, dI) vwCl [(h0, .inr (6, [.ref h1, .int 2])), (h1, .inl (k0, 64, .inl f1))] H := hP
  have hD : va_D A [(h0, .inr (6, [.ref h1, .int 2])), (h1, .inl (k0, 64, .inl f1))] := hD
  exact W.vret hx hb hr (fun t ht hW => ⟨⟨(), rfl, trivial, f1, f1_t, by rw [ht]; exact hP, va_K.moved hW.alike hK, hD⟩, hS.F ht⟩) hS.2.2 dX2_add_35
set_option maxHeartbeats 8000000 in
set_option maxRecDepth 100000 in
theorem kx_X3_type_h41 {l : Launch} {dC : Nat → ClassId} {dI : Nat → Nat → Nat} {h0 h1 h2 h3 h4 h5 h6 h7 h8 h9 h10 h11 z0 z1 z2 z3 : Nat} {k0 k1 k2 k3 k4 k5 : ClassId} {rp l5 R : Int32} {p : Program} {e : Env} {s : State} {m : MethodId} {args : Array Value} {below : List Frame} {meth : Method} {c : Code} {A : Nat → Prop} {H : Heap} {locs : List Loc} {ls : Array Slot} {f0 : Nat → Int32} (f0_t : sb_Fit f0) (hR : kz_ct 1 [l5] = R) (rp_l : (0 : Int) ≤ rp.toInt) (rp_u : rp.toInt ≤ (3 : Int)) (l5_l : (-1 : Int) ≤ l5.toInt) (l5_u : l5.toInt ≤ (3 : Int)) (hx : p.tables.exec = Jvm.exec) (hb : c.code = cX3_type) (hr : meth.sig.returnType = some .int) (hml : c.maxLocals = 8) (hown : s.vm.findClass RX3 = some m.cls) (hts : ∀ w ∈ wsX3_type, w.before args s = true) (hlocks : meth.locks = false) (hA : ∀ q : Nat, s.heap.size ≤ q → A q) (hS : va_S A s.heap H locs) (hK : va_K (dC, dI) vwCl [(k0, .object "Rewriterope$Text"), (k1, .byte), (k2, .byte), (k3, .byte), (k4, .byte), (k5, .byte)] s) (hP : va_P (dC, dI) vwCl [(h0, .inr (7, [.ref h1, .ref z0, .ref z1, .ref h2, .ref z2, .ref z3, .int 0, .int 0, .int 0])), (h1, .inl (k0, 4, .inr (.inr (.inr (.inr (va_up (va_up (va_up (va_up (fun _ => none) 0 (some h4)) 1 (some h6)) 2 (some h8)) 3 (some h10))))))), (h2, .inr (6, [.ref h3, .int 1])), (h3, .inl (k1, 64, .inl f0)), (h4, .inr (6, [.ref h5, .int 0])), (h5, .inl (k2, 64, .inl (fun _ => 0))), (h6, .inr (6, [.ref h7, .int 0])), (h7, .inl (k3, 64, .inl (fun _ => 0))), (h8, .inr (6, [.ref h9, .int 0])), (h9, .inl (k4, 64, .inl (fun _ => 0))), (h10, .inr (6, [.ref h11, .int 0])), (h11, .inl (k5, 64, .inl (fun _ => 0)))] H) (hD : va_D A [(h0, .inr (7, [.ref h1, .ref z0, .ref z1, .ref h2, .ref z2, .ref z3, .int 0, .int 0, .int 0])), (h1, .inl (k0, 4, .inr (.inr (.inr (.inr (va_up (va_up (va_up (va_up (fun _ => none) 0 (some h4)) 1 (some h6)) 2 (some h8)) 3 (some h10))))))), (h2, .inr (6, [.ref h3, .int 1])), (h3, .inl (k1, 64, .inl f0)), (h4, .inr (6, [.ref h5, .int 0])), (h5, .inl (k2, 64, .inl (fun _ => 0))), (h6, .inr (6, [.ref h7, .int 0])), (h7, .inl (k3, 64, .inl (fun _ => 0))), (h8, .inr (6, [.ref h9, .int 0])), (h9, .inl (k4, 64, .inl (fun _ => 0))), (h10, .inr (6, [.ref h11, .int 0])), (h11, .inl (k5, 64, .inl (fun _ => 0)))]) (hl : lv_has ls 8 [(0, .ref h0), (1, .int rp), (6, .int l5)]) : W p l e (headSpec wsX3_type ({ frames := 2, cells := 0, slots := 0, locals := 84 })).room s m args below meth c H locs 0 0 (MQ below (va_Qi (fun (r : Int32) (_ : Unit) => r = R) (fun (_ : Unit) (t : State) => va_P (dC, dI) vwCl [(h0, .inr (7, [.ref h1, .ref z0, .ref z1, .ref h2, .ref z2, .ref z3, .int 0, .int 0, .int 0]))] t.heap ∧ va_K (dC, dI) vwCl [(k0, .object "Rewriterope$Text"), (k1, .byte), (k2, .byte), (k3, .byte), (k4, .byte), (k5, .byte)] t ∧ va_D A [(h0, .inr (7, [.ref h1, .ref z0, .ref z1, .ref h2, .ref z2, .ref z3, .int 0, .int 0, .int 0]))]) A) args s 0 0 A) (F0 m 68 ls []) := by
  rcases Int.lt_or_le l5.toInt 0 with r9 | r9
  · obtain rfl : l5 = -1 := Int32.toInt_inj.mp (by rw [show (-1 : Int32).toInt = -1 from by decide]; omega)
    have hR : kz_ct 1 [] = R := kz_ct_n.symm.trans hR
    refine lv_aload_n hx hb dX3_type_68 rfl (lv_at hl 0 rfl) ?_
    refine va_get (D := (dC, dI)) (ci := 7) (v := .ref h2) (C := RX3) (T := TX3) (N := 9) hx hb hts (by decide +kernel) hown hK hP 0 rfl rfl 3 (by decide) (hts (.fieldLink RX3 32 "Rewriterope" "work" "LRewriterope$Text;") (by decide +kernel)) (fun _ h9 => h9) rfl dX3_type_69 ?_
    refine lv_iload hx hb dX3_type_72 (lv_at hl 2 rfl) ?_
    have hPc := hP.sub (ws' := [(h2, .inr (6, [.ref h3, .int 1]))]) [2] rfl
    have hDc := hD.sub (ws' := [(h2, .inr (6, [.ref h3, .int 1]))]) [2] (by decide) rfl
    have hKc := hK.sub (tys' := []) [] rfl
    have hFc := va_free (wc := [(h2, .inr (6, [.ref h3, .int 1]))]) hD hS hA [2] rfl
    refine va_callv (va_runV (As := [.int (-1)]) (rest := []) ⟨hx, hb, hml, hown, hts⟩ (kx_X2_add_7 l dC dI h2 h3 H.size) (cwV 1 hts gX3_type_X2_add rfl rfl rfl (by decide +kernel) ⟨Nat.le_of_ble_eq_true rfl, Nat.le_of_ble_eq_true rfl⟩) ⟨fun a U g mk q => by obtain ⟨q0, q1, qP, qK, qD⟩ := q; exact ⟨q0, q1, qP, va_K.moved (u := U) (U := U.calling g mk a) (Vm.Alike.refl U.vm) qK, qD⟩, va_recv hKc hPc (ci := 6) (q0 := 0) rfl rfl, fun U hU hW => ⟨rfl, by rw [hU], by rw [hU]; exact hPc, va_K.moved hW.alike hKc, hDc.weaken (fun _ _ _ _ => trivial)⟩⟩ rfl rfl hl.1 rfl (lv_room (Nat.le_of_ble_eq_true rfl)) dX3_type_74 ⟨Nat.le_of_ble_eq_true rfl, Nat.le_of_ble_eq_true rfl⟩) hS (fun q _ h => hFc q h) hFc (fun u t H1 locs ht hvm hw hB hz1 hk1 hS => ?_)
    obtain ⟨hP1, hK1, hD1⟩ := hB
    rw [ht] at hP1
    have hK1 := va_K.moved hvm.symm hK1
    obtain ⟨hP, hD⟩ := va_join (wr := [(h0, .inr (7, [.ref h1, .ref z0, .ref z1, .ref h2, .ref z2, .ref z3, .int 0, .int 0, .int 0])), (h1, .inl (k0, 4, .inr (.inr (.inr (.inr (va_up (va_up (va_up (va_up (fun _ => none) 0 (some h4)) 1 (some h6)) 2 (some h8)) 3 (some h10))))))), (h3, .inl (k1, 64, .inl f0)), (h4, .inr (6, [.ref h5, .int 0])), (h5, .inl (k2, 64, .inl (fun _ => 0))), (h6, .inr (6, [.ref h7, .int 0])), (h7, .inl (k3, 64, .inl (fun _ => 0))), (h8, .inr (6, [.ref h9, .int 0])), (h9, .inl (k4, 64, .inl (fun _ => 0))), (h10, .inr (6, [.ref h11, .int 0])), (h11, .inl (k5, 64, .inl (fun _ => 0)))]) (w1 := [(h2, .inr (6, [.ref h3, .int 1]))]) hP hD [2] [0, 1, 3, 4, 5, 6, 7, 8, 9, 10, 11] rfl rfl (by decide) (by decide) hk1 hFc hP1 hD1
    generalize H1 = H at hP hS ⊢
    have hP : va_P (dC, dI) vwCl [(h0, .inr (7, [.ref h1, .ref z0, .ref z1, .ref h2, .ref z2, .ref z3, .int 0, .int 0, .int 0])), (h1, .inl (k0, 4, .inr (.inr (.inr (.inr (va_up (va_up (va_up (va_up (fun _ => none) 0 (some h4)) 1 (some h6)) 2 (some h8)) 3 (some h10))))))), (h3, .inl (k1, 64, .inl f0)), (h4, .inr (6, [.ref h5, .int 0])), (h5, .inl (k2, 64, .inl (fun _ => 0))), (h6, .inr (6, [.ref h7, .int 0])), (h7, .inl (k3, 64, .inl (fun _ => 0))), (h8, .inr (6, [.ref h9, .int 0])), (h9, .inl (k4, 64, .inl (fun _ => 0))), (h10, .inr (6, [.ref h11, .int 0])), (h11, .inl (k5, 64, .inl (fun _ => 0))), (h2, .inr (6, [.ref h3, .int 1]))] H := hP
    have hD : va_D A [(h0, .inr (7, [.ref h1, .ref z0, .ref z1, .ref h2, .ref z2, .ref z3, .int 0, .int 0, .int 0])), (h1, .inl (k0, 4, .inr (.inr (.inr (.inr (va_up (va_up (va_up (va_up (fun _ => none) 0 (some h4)) 1 (some h6)) 2 (some h8)) 3 (some h10))))))), (h3, .inl (k1, 64, .inl f0)), (h4, .inr (6, [.ref h5, .int 0])), (h5, .inl (k2, 64, .inl (fun _ => 0))), (h6, .inr (6, [.ref h7, .int 0])), (h7, .inl (k3, 64, .inl (fun _ => 0))), (h8, .inr (6, [.ref h9, .int 0])), (h9, .inl (k4, 64, .inl (fun _ => 0))), (h10, .inr (6, [.ref h11, .int 0])), (h11, .inl (k5, 64, .inl (fun _ => 0))), (h2, .inr (6, [.ref h3, .int 1]))] := hD
    have hP := hP.sub (ws' := [(h0, .inr (7, [.ref h1, .ref z0, .ref z1, .ref h2, .ref z2, .ref z3, .int 0, .int 0, .int 0])), (h1, .inl (k0, 4, .inr (.inr (.inr (.inr (va_up (va_up (va_up (va_up (fun _ => none) 0 (some h4)) 1 (some h6)) 2 (some h8)) 3 (some h10))))))), (h2, .inr (6, [.ref h3, .int 1])), (h3, .inl (k1, 64, .inl f0)), (h4, .inr (6, [.ref h5, .int 0])), (h5, .inl (k2, 64, .inl (fun _ => 0))), (h6, .inr (6, [.ref h7, .int 0])), (h7, .inl (k3, 64, .inl (fun _ => 0))), (h8, .inr (6, [.ref h9, .int 0])), (h9, .inl (k4, 64, .inl (fun _ => 0))), (h10, .inr (6, [.ref h11, .int 0])), (h11, .inl (k5, 64, .inl (fun _ => 0)))]) [0, 1, 11, 2, 3, 4, 5, 6, 7, 8, 9, 10] rfl
    have hD := hD.sub (ws' := [(h0, .inr (7, [.ref h1, .ref z0, .ref z1, .ref h2, .ref z2, .ref z3, .int 0, .int 0, .int 0])), (h1, .inl (k0, 4, .inr (.inr (.inr (.inr (va_up (va_up (va_up (va_up (fun _ => none) 0 (some h4)) 1 (some h6)) 2 (some h8)) 3 (some h10))))))), (h2, .inr (6, [.ref h3, .int 1])), (h3, .inl (k1, 64, .inl f0)), (h4, .inr (6, [.ref h5, .int 0])), (h5, .inl (k2, 64, .inl (fun _ => 0))), (h6, .inr (6, [.ref h7, .int 0])), (h7, .inl (k3, 64, .inl (fun _ => 0))), (h8, .inr (6, [.ref h9, .int 0])), (h9, .inl (k4, 64, .inl (fun _ => 0))), (h10, .inr (6, [.ref h11, .int 0])), (h11, .inl (k5, 64, .inl (fun _ => 0)))]) [0, 1, 11, 2, 3, 4, 5, 6, 7, 8, 9, 10] (by decide) rfl
    have hK := hK.sub (tys' := [(k0, .object "Rewriterope$Text"), (k1, .byte), (k2, .byte), (k3, .byte), (k4, .byte), (k5, .byte)]) [0, 1, 2, 3, 4, 5] rfl
    have hl := lv_sub hl [0, 1] (show lv_pick [(0, .ref h0), (1, .int rp), (6, .int (-1))] [0, 1] = [(0, .ref h0), (1, .int rp)] from rfl)
    exact kx_X3_type_h51 f0_t hR rp_l rp_u hx hb hr hml hown hts hlocks hA hS hK hP hD hl
  · have l5_l : (0 : Int) ≤ l5.toInt := r9
    have hR : kz_ct 2 [] = R := (kz_ct_g l5_l).symm.trans hR
    refine lv_aload_n hx hb dX3_type_68 rfl (lv_at hl 0 rfl) ?_
    refine va_get (D := (dC, dI)) (ci := 7) (v := .ref h2) (C := RX3) (T := TX3) (N := 9) hx hb hts (by decide +kernel) hown hK hP 0 rfl rfl 3 (by decide) (hts (.fieldLink RX3 32 "Rewriterope" "work" "LRewriterope$Text;") (by decide +kernel)) (fun _ h9 => h9) rfl dX3_type_69 ?_
    refine lv_iload hx hb dX3_type_72 (lv_at hl 2 rfl) ?_
    have hPc := hP.sub (ws' := [(h2, .inr (6, [.ref h3, .int 1])), (h3, .inl (k1, 64, .inl f0))]) [2, 3] rfl
    have hDc := hD.sub (ws' := [(h2, .inr (6, [.ref h3, .int 1])), (h3, .inl (k1, 64, .inl f0))]) [2, 3] (by decide) rfl
    have hKc := hK.sub (tys' := [(k1, .byte)]) [1] rfl
    have hFc := va_free (wc := [(h2, .inr (6, [.ref h3, .int 1])), (h3, .inl (k1, 64, .inl f0))]) hD hS hA [2, 3] rfl
    refine va_callv (va_runV (As := [.int l5]) (rest := []) ⟨hx, hb, hml, hown, hts⟩ (kx_X2_add_8 l dC dI h2 h3 k1 H.size f0 f0_t l5 l5_l l5_u) (cwV 1 hts gX3_type_X2_add rfl rfl rfl (by decide +kernel) ⟨Nat.le_of_ble_eq_true rfl, Nat.le_of_ble_eq_true rfl⟩) ⟨fun a U g mk q => by obtain ⟨q0, q1, qP, qK, qD⟩ := q; exact ⟨q0, q1, qP, va_K.moved (u := U) (U := U.calling g mk a) (Vm.Alike.refl U.vm) qK, qD⟩, va_recv hKc hPc (ci := 6) (q0 := 0) rfl rfl, fun U hU hW => ⟨rfl, by rw [hU], by rw [hU]; exact hPc, va_K.moved hW.alike hKc, hDc.weaken (fun _ _ _ _ => trivial)⟩⟩ rfl rfl hl.1 rfl (lv_room (Nat.le_of_ble_eq_true rfl)) dX3_type_74 ⟨Nat.le_of_ble_eq_true rfl, Nat.le_of_ble_eq_true rfl⟩) hS (fun q _ h => hFc q h) hFc (fun u t H1 locs ht hvm hw hB hz1 hk1 hS => ?_)
    obtain ⟨f101, f101_t, hP1, hK1, hD1⟩ := hB
    rw [ht] at hP1
    have hK1 := va_K.moved hvm.symm hK1
    obtain ⟨hP, hD⟩ := va_join (wr := [(h0, .inr (7, [.ref h1, .ref z0, .ref z1, .ref h2, .ref z2, .ref z3, .int 0, .int 0, .int 0])), (h1, .inl (k0, 4, .inr (.inr (.inr (.inr (va_up (va_up (va_up (va_up (fun _ => none) 0 (some h4)) 1 (some h6)) 2 (some h8)) 3 (some h10))))))), (h4, .inr (6, [.ref h5, .int 0])), (h5, .inl (k2, 64, .inl (fun _ => 0))), (h6, .inr (6, [.ref h7, .int 0])), (h7, .inl (k3, 64, .inl (fun _ => 0))), (h8, .inr (6, [.ref h9, .int 0])), (h9, .inl (k4, 64, .inl (fun _ => 0))), (h10, .inr (6, [.ref h11, .int 0])), (h11, .inl (k5, 64, .inl (fun _ => 0)))]) (w1 := [(h2, .inr (6, [.ref h3, .int 2])), (h3, .inl (k1, 64, .inl f101))]) hP hD [2, 3] [0, 1, 4, 5, 6, 7, 8, 9, 10, 11] rfl rfl (by decide) (by decide) hk1 hFc hP1 hD1
    generalize H1 = H at hP hS ⊢
    have hP : va_P (dC, dI) vwCl [(h0, .inr (7, [.ref h1, .ref z0, .ref z1, .ref h2, .ref z2, .ref z3, .int 0, .int 0, .int 0])), (h1, .inl (k0, 4, .inr (.inr (.inr (.inr (va_up (va_up (va_up (va_up (fun _ => none) 0 (some h4)) 1 (some h6)) 2 (some h8)) 3 (some h10))))))), (h4, .inr (6, [.ref h5, .int 0])), (h5, .inl (k2, 64, .inl (fun _ => 0))), (h6, .inr (6, [.ref h7, .int 0])), (h7, .inl (k3, 64, .inl (fun _ => 0))), (h8, .inr (6, [.ref h9, .int 0])), (h9, .inl (k4, 64, .inl (fun _ => 0))), (h10, .inr (6, [.ref h11, .int 0])), (h11, .inl (k5, 64, .inl (fun _ => 0))), (h2, .inr (6, [.ref h3, .int 2])), (h3, .inl (k1, 64, .inl f101))] H := hP
    have hD : va_D A [(h0, .inr (7, [.ref h1, .ref z0, .ref z1, .ref h2, .ref z2, .ref z3, .int 0, .int 0, .int 0])), (h1, .inl (k0, 4, .inr (.inr (.inr (.inr (va_up (va_up (va_up (va_up (fun _ => none) 0 (some h4)) 1 (some h6)) 2 (some h8)) 3 (some h10))))))), (h4, .inr (6, [.ref h5, .int 0])), (h5, .inl (k2, 64, .inl (fun _ => 0))), (h6, .inr (6, [.ref h7, .int 0])), (h7, .inl (k3, 64, .inl (fun _ => 0))), (h8, .inr (6, [.ref h9, .int 0])), (h9, .inl (k4, 64, .inl (fun _ => 0))), (h10, .inr (6, [.ref h11, .int 0])), (h11, .inl (k5, 64, .inl (fun _ => 0))), (h2, .inr (6, [.ref h3, .int 2])), (h3, .inl (k1, 64, .inl f101))] := hD
    have hP := hP.sub (ws' := [(h0, .inr (7, [.ref h1, .ref z0, .ref z1, .ref h2, .ref z2, .ref z3, .int 0, .int 0, .int 0])), (h1, .inl (k0, 4, .inr (.inr (.inr (.inr (va_up (va_up (va_up (va_up (fun _ => none) 0 (some h4)) 1 (some h6)) 2 (some h8)) 3 (some h10))))))), (h2, .inr (6, [.ref h3, .int 2])), (h3, .inl (k1, 64, .inl f101)), (h4, .inr (6, [.ref h5, .int 0])), (h5, .inl (k2, 64, .inl (fun _ => 0))), (h6, .inr (6, [.ref h7, .int 0])), (h7, .inl (k3, 64, .inl (fun _ => 0))), (h8, .inr (6, [.ref h9, .int 0])), (h9, .inl (k4, 64, .inl (fun _ => 0))), (h10, .inr (6, [.ref h11, .int 0])), (h11, .inl (k5, 64, .inl (fun _ => 0)))]) [0, 1, 10, 11, 2, 3, 4, 5, 6, 7, 8, 9] rfl
    have hD := hD.sub (ws' := [(h0, .inr (7, [.ref h1, .ref z0, .ref z1, .ref h2, .ref z2, .ref z3, .int 0, .int 0, .int 0])), (h1, .inl (k0, 4, .inr (.inr (.inr (.inr (va_up (va_up (va_up (va_up (fun _ => none) 0 (some h4)) 1 (some h6)) 2 (some h8)) 3 (some h10))))))), (h2, .inr (6, [.ref h3, .int 2])), (h3, .inl (k1, 64, .inl f101)), (h4, .inr (6, [.ref h5, .int 0])), (h5, .inl (k2, 64, .inl (fun _ => 0))), (h6, .inr (6, [.ref h7, .int 0])), (h7, .inl (k3, 64, .inl (fun _ => 0))), (h8, .inr (6, [.ref h9, .int 0])), (h9, .inl (k4, 64, .inl (fun _ => 0))), (h10, .inr (6, [.ref h11, .int 0])), (h11, .inl (k5, 64, .inl (fun _ => 0)))]) [0, 1, 10, 11, 2, 3, 4, 5, 6, 7, 8, 9] (by decide) rfl
    have hK := hK.sub (tys' := [(k0, .object "Rewriterope$Text"), (k1, .byte), (k2, .byte), (k3, .byte), (k4, .byte), (k5, .byte)]) [0, 1, 2, 3, 4, 5] rfl
    have hl := lv_sub hl [0, 1] (show lv_pick [(0, .ref h0), (1, .int rp), (6, .int l5)] [0, 1] = [(0, .ref h0), (1, .int rp)] from rfl)
    exact kx_X3_type_h52 f101_t hR rp_l rp_u hx hb hr hml hown hts hlocks hA hS hK hP hD hl
set_option maxHeartbeats 4000000 in
set_option maxRecDepth 100000 in
theorem kx_X2_add_9 (l : Launch) (dC : Nat → ClassId) (dI : Nat → Nat → Nat) (h0 : Nat) (z0 : Nat) (sz : Nat) : Met l yX2_add wsX2_add ({ frames := 0, cells := 0, slots := 0, locals := 0 }) (va_Pc [.ref h0, .int (-1)] (fun U => U.heap.size = sz ∧ va_P (dC, dI) vwCl [(h0, .inr (6, [.ref z0, .int 2]))] U.heap ∧ va_K (dC, dI) vwCl [] U ∧ va_D (fun _ => True) [(h0, .inr (6, [.ref z0, .int 2]))])) (va_Qv (fun _ : Unit => True) (fun (_ : Unit) (t : State) => va_P (dC, dI) vwCl [(h0, .inr (6, [.ref z0, .int 2]))] t.heap ∧ va_K (dC, dI) vwCl [] t ∧ va_D (va_A [(h0, .inr (6, [.ref z0, .int 2]))] sz) [(h0, .inr (6, [.ref z0, .int 2]))]) (va_A [(h0, .inr (6, [.ref z0, .int 2]))] sz)) 0 0 (va_A [(h0, .inr (6, [.ref z0, .int 2]))] sz) := by
  refine Met.ofW (cc := cX2_add) (maxL := 2) (ret := none) (by decide) rfl ?_
  intro p e s m args below meth c s₁ B hml hv
  obtain ⟨rfl, hsz, hP, hK, hD0⟩ := hv
  have hx := B.exec
  have hb := B.bytes
  have hr := B.returns
  have hts := atoms_spec (ws := wsX2_add) B.pre
  have hown : s.vm.findClass RX2 = some m.cls := findClass_of_methodNamed B.named
  have hlocks := B.notSynchronized
  subst hsz
  have hD := hD0.self (sz := s.heap.size)
  generalize hAe : va_A [(h0, .inr (6, [.ref z0, .int 2]))] s.heap.size = A at hD ⊢
  have hA : ∀ q : Nat, s.heap.size ≤ q → A q := fun q h => by rw [← hAe]; exact Or.inr h
  have hS : va_S A s.heap s.heap [] := va_S.rf
  have hP : va_P (dC, dI) vwCl [(h0, .inr (6, [.ref z0, .int 2]))] s.heap := hP
  have hl := lv_entry ([.ref h0, .int (-1)]) (n := 2) (Nat.le_of_ble_eq_true rfl)
  rw [lg_entry_eq]
  generalize (lg_sl ([.ref h0, .int (-1)]) ++ List.replicate (2 - (lg_sl ([.ref h0, .int (-1)])).length) Slot.unset).toArray = ls at hl ⊢
  have hl : lv_has ls 2 [(0, .ref h0), (1, .int (-1))] := hl
  refine lv_iload_n hx hb dX2_add_0 rfl (lv_at hl 1 rfl) ?_
  refine lv_iconst (v := (-1)) hx hb dX2_add_1 (by decide) ?_
  refine lv_icmp_eq (tgt := 35) hx hb dX2_add_2 (by decide) (fun _ => ?_) (fun c9 => absurd (by decide) c9)
  exact W.vret hx hb hr (fun t ht hW => ⟨⟨(), rfl, trivial, by rw [ht]; exact hP, va_K.moved hW.alike hK, hD⟩, hS.F ht⟩) hS.2.2 dX2_add_35
set_option maxHeartbeats 4000000 in
set_option maxRecDepth 100000 in
theorem kx_X2_add_10 (l : Launch) (dC : Nat → ClassId) (dI : Nat → Nat → Nat) (h0 : Nat) (h1 : Nat) (k0 : ClassId) (sz : Nat) (f0 : Nat → Int32) (f0_t : sb_Fit f0) (i0 : Int32) (i0_l : (0 : Int) ≤ i0.toInt) (i0_u : i0.toInt ≤ (3 : Int)) : Met l yX2_add wsX2_add ({ frames := 0, cells := 0, slots := 0, locals := 0 }) (va_Pc [.ref h0, .int i0] (fun U => U.heap.size = sz ∧ va_P (dC, dI) vwCl [(h0, .inr (6, [.ref h1, .int 2])), (h1, .inl (k0, 64, .inl f0))] U.heap ∧ va_K (dC, dI) vwCl [(k0, .byte)] U ∧ va_D (fun _ => True) [(h0, .inr (6, [.ref h1, .int 2])), (h1, .inl (k0, 64, .inl f0))])) (va_Qv (fun _ : Unit => True) (fun (_ : Unit) (t : State) => ∃ f1 : Nat → Int32, sb_Fit f1 ∧ va_P (dC, dI) vwCl [(h0, .inr (6, [.ref h1, .int 3])), (h1, .inl (k0, 64, .inl f1))] t.heap ∧ va_K (dC, dI) vwCl [(k0, .byte)] t ∧ va_D (va_A [(h0, .inr (6, [.ref h1, .int 2])), (h1, .inl (k0, 64, .inl f0))] sz) [(h0, .inr (6, [.ref h1, .int 3])), (h1, .inl (k0, 64, .inl f1))]) (va_A [(h0, .inr (6, [.ref h1, .int 2])), (h1, .inl (k0, 64, .inl f0))] sz)) 0 0 (va_A [(h0, .inr (6, [.ref h1, .int 2])), (h1, .inl (k0, 64, .inl f0))] sz) := by
  refine Met.ofW (cc := cX2_add) (maxL := 2) (ret := none) (by decide) rfl ?_
  intro p e s m args below meth c s₁ B hml hv
  obtain ⟨rfl, hsz, hP, hK, hD0⟩ := hv
  have hx := B.exec
  have hb := B.bytes
  have hr := B.returns
  have hts := atoms_spec (ws := wsX2_add) B.pre
  have hown : s.vm.findClass RX2 = some m.cls := findClass_of_methodNamed B.named
  have hlocks := B.notSynchronized
  subst hsz
  have hD := hD0.self (sz := s.heap.size)
  generalize hAe : va_A [(h0, .inr (6, [.ref h1, .int 2])), (h1, .inl (k0, 64, .inl f0))] s.heap.size = A at hD ⊢
  have hA : ∀ q : Nat, s.heap.size ≤ q → A q := fun q h => by rw [← hAe]; exact Or.inr h
  have hS : va_S A s.heap s.heap [] := va_S.rf
  have hP : va_P (dC, dI) vwCl [(h0, .inr (6, [.ref h1, .int 2])), (h1, .inl (k0, 64, .inl f0))] s.heap := hP
  have hl := lv_entry ([.ref h0, .int i0]) (n := 2) (Nat.le_of_ble_eq_true rfl)
  rw [lg_entry_eq]
  generalize (lg_sl ([.ref h0, .int i0]) ++ List.replicate (2 - (lg_sl ([.ref h0, .int i0])).length) Slot.unset).toArray = ls at hl ⊢
  have hl : lv_has ls 2 [(0, .ref h0), (1, .int i0)] := hl
  refine lv_iload_n hx hb dX2_add_0 rfl (lv_at hl 1 rfl) ?_
  refine lv_iconst (v := (-1)) hx hb dX2_add_1 (by decide) ?_
  refine lv_icmp_eq (tgt := 35) hx hb dX2_add_2 (by decide) (fun c9 => absurd c9 (fun c8 => absurd (congrArg Int32.toInt c8) (by rw [show ((-1) : Int32).toInt = (-1) from by decide]; omega))) (fun _ => ?_)
  refine lv_aload_n hx hb dX2_add_5 rfl (lv_at hl 0 rfl) ?_
  refine va_get (D := (dC, dI)) (ci := 6) (v := .int 2) (C := RX2) (T := TX2) (N := 2) hx hb hts (by decide +kernel) hown hK hP 0 rfl rfl 1 (by decide) (hts (.fieldLink RX2 15 "Rewriterope$Text" "length" "I") (by decide +kernel)) (fun _ h9 => h9) rfl dX2_add_6 ?_
  refine lv_bipush (v := 64) hx hb dX2_add_9 (by decide) ?_
  refine lv_icmp_ge (tgt := 35) hx hb dX2_add_11 (by decide) (fun c9 => absurd c9 (by decide)) (fun _ => ?_)
  refine lv_aload_n hx hb dX2_add_14 rfl (lv_at hl 0 rfl) ?_
  refine va_get (D := (dC, dI)) (ci := 6) (v := .ref h1) (C := RX2) (T := TX2) (N := 2) hx hb hts (by decide +kernel) hown hK hP 0 rfl rfl 0 (by decide) (hts (.fieldLink RX2 11 "Rewriterope$Text" "letters" "[B") (by decide +kernel)) (fun _ h9 => h9) rfl dX2_add_15 ?_
  refine lv_aload_n hx hb dX2_add_18 rfl (lv_at hl 0 rfl) ?_
  refine va_get (D := (dC, dI)) (ci := 6) (v := .int 2) (C := RX2) (T := TX2) (N := 2) hx hb hts (by decide +kernel) hown hK hP 0 rfl rfl 1 (by decide) (hts (.fieldLink RX2 15 "Rewriterope$Text" "length" "I") (by decide +kernel)) (fun _ h9 => h9) rfl dX2_add_19 ?_
  refine lv_iload_n hx hb dX2_add_22 rfl (lv_at hl 1 rfl) ?_
  refine lv_i2b (v := i0) hx hb dX2_add_23 (kz_i2b i0_l i0_u) ?_
  refine va_bast (D := (dC, dI)) hx hb hK hP hD hS 1 0 rfl rfl (by unfold vp_in; decide) dX2_add_24 (fun H locs hP hD hS => ?_)
  rw [kz_nar i0_l i0_u] at hP hD
  have hP : va_P (dC, dI) vwCl [(h0, .inr (6, [.ref h1, .int 2])), (h1, .inl (k0, 64, .inl (upd f0 2 i0)))] H := hP
  have hD : va_D A [(h0, .inr (6, [.ref h1, .int 2])), (h1, .inl (k0, 64, .inl (upd f0 2 i0)))] := hD
  obtain ⟨f1, hf1⟩ : ∃ f : Nat → Int32, f = upd f0 2 i0 := ⟨_, rfl⟩
  have f1_t : sb_Fit f1 := by rw [hf1]; exact sb_fitU f0_t (kz_fit4 i0_l i0_u)
  rw [← hf1] at hP hD
  refine lv_aload_n hx hb dX2_add_25 rfl (lv_at hl 0 rfl) ?_
  refine lv_dup hx hb dX2_add_26 rfl ?_
  refine va_get (D := (dC, dI)) (ci := 6) (v := .int 2) (C := RX2) (T := TX2) (N := 2) hx hb hts (by decide +kernel) hown hK hP 0 rfl rfl 1 (by decide) (hts (.fieldLink RX2 15 "Rewriterope$Text" "length" "I") (by decide +kernel)) (fun _ h9 => h9) rfl dX2_add_27 ?_
  refine lv_iconst (v := 1) hx hb dX2_add_30 (by decide) ?_
  refine lv_iadd hx hb dX2_add_31 ?_
  refine lv_topi (fun y2 ey2 => ?_)
  obtain rfl : y2 = 3 := ey2.trans (by decide)
  refine va_put (D := (dC, dI)) (ci := 6) (v := .int 3) (ty := .int) (C := RX2) (T := TX2) (N := 2) hx hb hts (by decide +kernel) tyX2 tyX2_ok nmX2 hown hK hP hD hS 0 rfl rfl 1 (by decide) (hts (.fieldLink RX2 15 "Rewriterope$Text" "length" "I") (by decide +kernel)) (fun _ h9 => h9) rfl (by decide +kernel) rfl rfl (Nat.le_of_ble_eq_true rfl) dX2_add_32 (fun H locs hP hD hS => ?_)
  have hP : va_P (dC, dI) vwCl [(h0, .inr (6, [.ref h1, .int 3])), (h1, .inl (k0, 64, .inl f1))] H := hP
  have hD : va_D A [(h0, .inr (6, [.ref h1, .int 3])), (h1, .inl (k0, 64, .inl f1))] := hD
  exact W.vret hx hb hr (fun t ht hW => ⟨⟨(), rfl, trivial, f1, f1_t, by rw [ht]; exact hP, va_K.moved hW.alike hK, hD⟩, hS.F ht⟩) hS.2.2 dX2_add_35
set_option maxHeartbeats 8000000 in
set_option maxRecDepth 100000 in
theorem kx_X3_type_h42 {l : Launch} {dC : Nat → ClassId} {dI : Nat → Nat → Nat} {h0 h1 h2 h3 h4 h5 h6 h7 h8 h9 h10 h11 z0 z1 z2 z3 : Nat} {k0 k1 k2 k3 k4 k5 : ClassId} {rp l5 R : Int32} {p : Program} {e : Env} {s : State} {m : MethodId} {args : Array Value} {below : List Frame} {meth : Method} {c : Code} {A : Nat → Prop} {H : Heap} {locs : List Loc} {ls : Array Slot} {f0 : Nat → Int32} (f0_t : sb_Fit f0) (hR : kz_ct 2 [l5] = R) (rp_l : (0 : Int) ≤ rp.toInt) (rp_u : rp.toInt ≤ (3 : Int)) (l5_l : (-1 : Int) ≤ l5.toInt) (l5_u : l5.toInt ≤ (3 : Int)) (hx : p.tables.exec = Jvm.exec) (hb : c.code = cX3_type) (hr : meth.sig.returnType = some .int) (hml : c.maxLocals = 8) (hown : s.vm.findClass RX3 = some m.cls) (hts : ∀ w ∈ wsX3_type, w.before args s = true) (hlocks : meth.locks = false) (hA : ∀ q : Nat, s.heap.size ≤ q → A q) (hS : va_S A s.heap H locs) (hK : va_K (dC, dI) vwCl [(k0, .object "Rewriterope$Text"), (k1, .byte), (k2, .byte), (k3, .byte), (k4, .byte), (k5, .byte)] s) (hP : va_P (dC, dI) vwCl [(h0, .inr (7, [.ref h1, .ref z0, .ref z1, .ref h2, .ref z2, .ref z3, .int 0, .int 0, .int 0])), (h1, .inl (k0, 4, .inr (.inr (.inr (.inr (va_up (va_up (va_up (va_up (fun _ => none) 0 (some h4)) 1 (some h6)) 2 (some h8)) 3 (some h10))))))), (h2, .inr (6, [.ref h3, .int 2])), (h3, .inl (k1, 64, .inl f0)), (h4, .inr (6, [.ref h5, .int 0])), (h5, .inl (k2, 64, .inl (fun _ => 0))), (h6, .inr (6, [.ref h7, .int 0])), (h7, .inl (k3, 64, .inl (fun _ => 0))), (h8, .inr (6, [.ref h9, .int 0])), (h9, .inl (k4, 64, .inl (fun _ => 0))), (h10, .inr (6, [.ref h11, .int 0])), (h11, .inl (k5, 64, .inl (fun _ => 0)))] H) (hD : va_D A [(h0, .inr (7, [.ref h1, .ref z0, .ref z1, .ref h2, .ref z2, .ref z3, .int 0, .int 0, .int 0])), (h1, .inl (k0, 4, .inr (.inr (.inr (.inr (va_up (va_up (va_up (va_up (fun _ => none) 0 (some h4)) 1 (some h6)) 2 (some h8)) 3 (some h10))))))), (h2, .inr (6, [.ref h3, .int 2])), (h3, .inl (k1, 64, .inl f0)), (h4, .inr (6, [.ref h5, .int 0])), (h5, .inl (k2, 64, .inl (fun _ => 0))), (h6, .inr (6, [.ref h7, .int 0])), (h7, .inl (k3, 64, .inl (fun _ => 0))), (h8, .inr (6, [.ref h9, .int 0])), (h9, .inl (k4, 64, .inl (fun _ => 0))), (h10, .inr (6, [.ref h11, .int 0])), (h11, .inl (k5, 64, .inl (fun _ => 0)))]) (hl : lv_has ls 8 [(0, .ref h0), (1, .int rp), (6, .int l5)]) : W p l e (headSpec wsX3_type ({ frames := 2, cells := 0, slots := 0, locals := 84 })).room s m args below meth c H locs 0 0 (MQ below (va_Qi (fun (r : Int32) (_ : Unit) => r = R) (fun (_ : Unit) (t : State) => va_P (dC, dI) vwCl [(h0, .inr (7, [.ref h1, .ref z0, .ref z1, .ref h2, .ref z2, .ref z3, .int 0, .int 0, .int 0]))] t.heap ∧ va_K (dC, dI) vwCl [(k0, .object "Rewriterope$Text"), (k1, .byte), (k2, .byte), (k3, .byte), (k4, .byte), (k5, .byte)] t ∧ va_D A [(h0, .inr (7, [.ref h1, .ref z0, .ref z1, .ref h2, .ref z2, .ref z3, .int 0, .int 0, .int 0]))]) A) args s 0 0 A) (F0 m 68 ls []) := by
  rcases Int.lt_or_le l5.toInt 0 with r9 | r9
  · obtain rfl : l5 = -1 := Int32.toInt_inj.mp (by rw [show (-1 : Int32).toInt = -1 from by decide]; omega)
    have hR : kz_ct 2 [] = R := kz_ct_n.symm.trans hR
    refine lv_aload_n hx hb dX3_type_68 rfl (lv_at hl 0 rfl) ?_
    refine va_get (D := (dC, dI)) (ci := 7) (v := .ref h2) (C := RX3) (T := TX3) (N := 9) hx hb hts (by decide +kernel) hown hK hP 0 rfl rfl 3 (by decide) (hts (.fieldLink RX3 32 "Rewriterope" "work" "LRewriterope$Text;") (by decide +kernel)) (fun _ h9 => h9) rfl dX3_type_69 ?_
    refine lv_iload hx hb dX3_type_72 (lv_at hl 2 rfl) ?_
    have hPc := hP.sub (ws' := [(h2, .inr (6, [.ref h3, .int 2]))]) [2] rfl
    have hDc := hD.sub (ws' := [(h2, .inr (6, [.ref h3, .int 2]))]) [2] (by decide) rfl
    have hKc := hK.sub (tys' := []) [] rfl
    have hFc := va_free (wc := [(h2, .inr (6, [.ref h3, .int 2]))]) hD hS hA [2] rfl
    refine va_callv (va_runV (As := [.int (-1)]) (rest := []) ⟨hx, hb, hml, hown, hts⟩ (kx_X2_add_9 l dC dI h2 h3 H.size) (cwV 1 hts gX3_type_X2_add rfl rfl rfl (by decide +kernel) ⟨Nat.le_of_ble_eq_true rfl, Nat.le_of_ble_eq_true rfl⟩) ⟨fun a U g mk q => by obtain ⟨q0, q1, qP, qK, qD⟩ := q; exact ⟨q0, q1, qP, va_K.moved (u := U) (U := U.calling g mk a) (Vm.Alike.refl U.vm) qK, qD⟩, va_recv hKc hPc (ci := 6) (q0 := 0) rfl rfl, fun U hU hW => ⟨rfl, by rw [hU], by rw [hU]; exact hPc, va_K.moved hW.alike hKc, hDc.weaken (fun _ _ _ _ => trivial)⟩⟩ rfl rfl hl.1 rfl (lv_room (Nat.le_of_ble_eq_true rfl)) dX3_type_74 ⟨Nat.le_of_ble_eq_true rfl, Nat.le_of_ble_eq_true rfl⟩) hS (fun q _ h => hFc q h) hFc (fun u t H1 locs ht hvm hw hB hz1 hk1 hS => ?_)
    obtain ⟨hP1, hK1, hD1⟩ := hB
    rw [ht] at hP1
    have hK1 := va_K.moved hvm.symm hK1
    obtain ⟨hP, hD⟩ := va_join (wr := [(h0, .inr (7, [.ref h1, .ref z0, .ref z1, .ref h2, .ref z2, .ref z3, .int 0, .int 0, .int 0])), (h1, .inl (k0, 4, .inr (.inr (.inr (.inr (va_up (va_up (va_up (va_up (fun _ => none) 0 (some h4)) 1 (some h6)) 2 (some h8)) 3 (some h10))))))), (h3, .inl (k1, 64, .inl f0)), (h4, .inr (6, [.ref h5, .int 0])), (h5, .inl (k2, 64, .inl (fun _ => 0))), (h6, .inr (6, [.ref h7, .int 0])), (h7, .inl (k3, 64, .inl (fun _ => 0))), (h8, .inr (6, [.ref h9, .int 0])), (h9, .inl (k4, 64, .inl (fun _ => 0))), (h10, .inr (6, [.ref h11, .int 0])), (h11, .inl (k5, 64, .inl (fun _ => 0)))]) (w1 := [(h2, .inr (6, [.ref h3, .int 2]))]) hP hD [2] [0, 1, 3, 4, 5, 6, 7, 8, 9, 10, 11] rfl rfl (by decide) (by decide) hk1 hFc hP1 hD1
    generalize H1 = H at hP hS ⊢
    have hP : va_P (dC, dI) vwCl [(h0, .inr (7, [.ref h1, .ref z0, .ref z1, .ref h2, .ref z2, .ref z3, .int 0, .int 0, .int 0])), (h1, .inl (k0, 4, .inr (.inr (.inr (.inr (va_up (va_up (va_up (va_up (fun _ => none) 0 (some h4)) 1 (some h6)) 2 (some h8)) 3 (some h10))))))), (h3, .inl (k1, 64, .inl f0)), (h4, .inr (6, [.ref h5, .int 0])), (h5, .inl (k2, 64, .inl (fun _ => 0))), (h6, .inr (6, [.ref h7, .int 0])), (h7, .inl (k3, 64, .inl (fun _ => 0))), (h8, .inr (6, [.ref h9, .int 0])), (h9, .inl (k4, 64, .inl (fun _ => 0))), (h10, .inr (6, [.ref h11, .int 0])), (h11, .inl (k5, 64, .inl (fun _ => 0))), (h2, .inr (6, [.ref h3, .int 2]))] H := hP
    have hD : va_D A [(h0, .inr (7, [.ref h1, .ref z0, .ref z1, .ref h2, .ref z2, .ref z3, .int 0, .int 0, .int 0])), (h1, .inl (k0, 4, .inr (.inr (.inr (.inr (va_up (va_up (va_up (va_up (fun _ => none) 0 (some h4)) 1 (some h6)) 2 (some h8)) 3 (some h10))))))), (h3, .inl (k1, 64, .inl f0)), (h4, .inr (6, [.ref h5, .int 0])), (h5, .inl (k2, 64, .inl (fun _ => 0))), (h6, .inr (6, [.ref h7, .int 0])), (h7, .inl (k3, 64, .inl (fun _ => 0))), (h8, .inr (6, [.ref h9, .int 0])), (h9, .inl (k4, 64, .inl (fun _ => 0))), (h10, .inr (6, [.ref h11, .int 0])), (h11, .inl (k5, 64, .inl (fun _ => 0))), (h2, .inr (6, [.ref h3, .int 2]))] := hD
    have hP := hP.sub (ws' := [(h0, .inr (7, [.ref h1, .ref z0, .ref z1, .ref h2, .ref z2, .ref z3, .int 0, .int 0, .int 0])), (h1, .inl (k0, 4, .inr (.inr (.inr (.inr (va_up (va_up (va_up (va_up (fun _ => none) 0 (some h4)) 1 (some h6)) 2 (some h8)) 3 (some h10))))))), (h2, .inr (6, [.ref h3, .int 2])), (h3, .inl (k1, 64, .inl f0)), (h4, .inr (6, [.ref h5, .int 0])), (h5, .inl (k2, 64, .inl (fun _ => 0))), (h6, .inr (6, [.ref h7, .int 0])), (h7, .inl (k3, 64, .inl (fun _ => 0))), (h8, .inr (6, [.ref h9, .int 0])), (h9, .inl (k4, 64, .inl (fun _ => 0))), (h10, .inr (6, [.ref h11, .int 0])), (h11, .inl (k5, 64, .inl (fun _ => 0)))]) [0, 1, 11, 2, 3, 4, 5, 6, 7, 8, 9, 10] rfl
    have hD := hD.sub (ws' := [(h0, .inr (7, [.ref h1, .ref z0, .ref z1, .ref h2, .ref z2, .ref z3, .int 0, .int 0, .int 0])), (h1, .inl (k0, 4, .inr (.inr (.inr (.inr (va_up (va_up (va_up (va_up (fun _ => none) 0 (some h4)) 1 (some h6)) 2 (some h8)) 3 (some h10))))))), (h2, .inr (6, [.ref h3, .int 2])), (h3, .inl (k1, 64, .inl f0)), (h4, .inr (6, [.ref h5, .int 0])), (h5, .inl (k2, 64, .inl (fun _ => 0))), (h6, .inr (6, [.ref h7, .int 0])), (h7, .inl (k3, 64, .inl (fun _ => 0))), (h8, .inr (6, [.ref h9, .int 0])), (h9, .inl (k4, 64, .inl (fun _ => 0))), (h10, .inr (6, [.ref h11, .int 0])), (h11, .inl (k5, 64, .inl (fun _ => 0)))]) [0, 1, 11, 2, 3, 4, 5, 6, 7, 8, 9, 10] (by decide) rfl
    have hK := hK.sub (tys' := [(k0, .object "Rewriterope$Text"), (k1, .byte), (k2, .byte), (k3, .byte), (k4, .byte), (k5, .byte)]) [0, 1, 2, 3, 4, 5] rfl
    have hl := lv_sub hl [0, 1] (show lv_pick [(0, .ref h0), (1, .int rp), (6, .int (-1))] [0, 1] = [(0, .ref h0), (1, .int rp)] from rfl)
    exact kx_X3_type_h52 f0_t hR rp_l rp_u hx hb hr hml hown hts hlocks hA hS hK hP hD hl
  · have l5_l : (0 : Int) ≤ l5.toInt := r9
    have hR : kz_ct 3 [] = R := (kz_ct_g l5_l).symm.trans hR
    refine lv_aload_n hx hb dX3_type_68 rfl (lv_at hl 0 rfl) ?_
    refine va_get (D := (dC, dI)) (ci := 7) (v := .ref h2) (C := RX3) (T := TX3) (N := 9) hx hb hts (by decide +kernel) hown hK hP 0 rfl rfl 3 (by decide) (hts (.fieldLink RX3 32 "Rewriterope" "work" "LRewriterope$Text;") (by decide +kernel)) (fun _ h9 => h9) rfl dX3_type_69 ?_
    refine lv_iload hx hb dX3_type_72 (lv_at hl 2 rfl) ?_
    have hPc := hP.sub (ws' := [(h2, .inr (6, [.ref h3, .int 2])), (h3, .inl (k1, 64, .inl f0))]) [2, 3] rfl
    have hDc := hD.sub (ws' := [(h2, .inr (6, [.ref h3, .int 2])), (h3, .inl (k1, 64, .inl f0))]) [2, 3] (by decide) rfl
    have hKc := hK.sub (tys' := [(k1, .byte)]) [1] rfl
    have hFc := va_free (wc := [(h2, .inr (6, [.ref h3, .int 2])), (h3, .inl (k1, 64, .inl f0))]) hD hS hA [2, 3] rfl
    refine va_callv (va_runV (As := [.int l5]) (rest := []) ⟨hx, hb, hml, hown, hts⟩ (kx_X2_add_10 l dC dI h2 h3 k1 H.size f0 f0_t l5 l5_l l5_u) (cwV 1 hts gX3_type_X2_add rfl rfl rfl (by decide +kernel) ⟨Nat.le_of_ble_eq_true rfl, Nat.le_of_ble_eq_true rfl⟩) ⟨fun a U g mk q => by obtain ⟨q0, q1, qP, qK, qD⟩ := q; exact ⟨q0, q1, qP, va_K.moved (u := U) (U := U.calling g mk a) (Vm.Alike.refl U.vm) qK, qD⟩, va_recv hKc hPc (ci := 6) (q0 := 0) rfl rfl, fun U hU hW => ⟨rfl, by rw [hU], by rw [hU]; exact hPc, va_K.moved hW.alike hKc, hDc.weaken (fun _ _ _ _ => trivial)⟩⟩ rfl rfl hl.1 rfl (lv_room (Nat.le_of_ble_eq_true rfl)) dX3_type_74 ⟨Nat.le_of_ble_eq_true rfl, Nat.le_of_ble_eq_true rfl⟩) hS (fun q _ h => hFc q h) hFc (fun u t H1 locs ht hvm hw hB hz1 hk1 hS => ?_)
    obtain ⟨f101, f101_t, hP1, hK1, hD1⟩ := hB
    rw [ht] at hP1
    have hK1 := va_K.moved hvm.symm hK1
    obtain ⟨hP, hD⟩ := va_join (wr := [(h0, .inr (7, [.ref h1, .ref z0, .ref z1, .ref h2, .ref z2, .ref z3, .int 0, .int 0, .int 0])), (h1, .inl (k0, 4, .inr (.inr (.inr (.inr (va_up (va_up (va_up (va_up (fun _ => none) 0 (some h4)) 1 (some h6)) 2 (some h8)) 3 (some h10))))))), (h4, .inr (6, [.ref h5, .int 0])), (h5, .inl (k2, 64, .inl (fun _ => 0))), (h6, .inr (6, [.ref h7, .int 0])), (h7, .inl (k3, 64, .inl (fun _ => 0))), (h8, .inr (6, [.ref h9, .int 0])), (h9, .inl (k4, 64, .inl (fun _ => 0))), (h10, .inr (6, [.ref h11, .int 0])), (h11, .inl (k5, 64, .inl (fun _ => 0)))]) (w1 := [(h2, .inr (6, [.ref h3, .int 3])), (h3, .inl (k1, 64, .inl f101))]) hP hD [2, 3] [0, 1, 4, 5, 6, 7, 8, 9, 10, 11] rfl rfl (by decide) (by decide) hk1 hFc hP1 hD1
    generalize H1 = H at hP hS ⊢
    have hP : va_P (dC, dI) vwCl [(h0, .inr (7, [.ref h1, .ref z0, .ref z1, .ref h2, .ref z2, .ref z3, .int 0, .int 0, .int 0])), (h1, .inl (k0, 4, .inr (.inr (.inr (.inr (va_up (va_up (va_up (va_up (fun _ => none) 0 (some h4)) 1 (some h6)) 2 (some h8)) 3 (some h10))))))), (h4, .inr (6, [.ref h5, .int 0])), (h5, .inl (k2, 64, .inl (fun _ => 0))), (h6, .inr (6, [.ref h7, .int 0])), (h7, .inl (k3, 64, .inl (fun _ => 0))), (h8, .inr (6, [.ref h9, .int 0])), (h9, .inl (k4, 64, .inl (fun _ => 0))), (h10, .inr (6, [.ref h11, .int 0])), (h11, .inl (k5, 64, .inl (fun _ => 0))), (h2, .inr (6, [.ref h3, .int 3])), (h3, .inl (k1, 64, .inl f101))] H := hP
    have hD : va_D A [(h0, .inr (7, [.ref h1, .ref z0, .ref z1, .ref h2, .ref z2, .ref z3, .int 0, .int 0, .int 0])), (h1, .inl (k0, 4, .inr (.inr (.inr (.inr (va_up (va_up (va_up (va_up (fun _ => none) 0 (some h4)) 1 (some h6)) 2 (some h8)) 3 (some h10))))))), (h4, .inr (6, [.ref h5, .int 0])), (h5, .inl (k2, 64, .inl (fun _ => 0))), (h6, .inr (6, [.ref h7, .int 0])), (h7, .inl (k3, 64, .inl (fun _ => 0))), (h8, .inr (6, [.ref h9, .int 0])), (h9, .inl (k4, 64, .inl (fun _ => 0))), (h10, .inr (6, [.ref h11, .int 0])), (h11, .inl (k5, 64, .inl (fun _ => 0))), (h2, .inr (6, [.ref h3, .int 3])), (h3, .inl (k1, 64, .inl f101))] := hD
    have hP := hP.sub (ws' := [(h0, .inr (7, [.ref h1, .ref z0, .ref z1, .ref h2, .ref z2, .ref z3, .int 0, .int 0, .int 0])), (h1, .inl (k0, 4, .inr (.inr (.inr (.inr (va_up (va_up (va_up (va_up (fun _ => none) 0 (some h4)) 1 (some h6)) 2 (some h8)) 3 (some h10))))))), (h2, .inr (6, [.ref h3, .int 3])), (h3, .inl (k1, 64, .inl f101)), (h4, .inr (6, [.ref h5, .int 0])), (h5, .inl (k2, 64, .inl (fun _ => 0))), (h6, .inr (6, [.ref h7, .int 0])), (h7, .inl (k3, 64, .inl (fun _ => 0))), (h8, .inr (6, [.ref h9, .int 0])), (h9, .inl (k4, 64, .inl (fun _ => 0))), (h10, .inr (6, [.ref h11, .int 0])), (h11, .inl (k5, 64, .inl (fun _ => 0)))]) [0, 1, 10, 11, 2, 3, 4, 5, 6, 7, 8, 9] rfl
    have hD := hD.sub (ws' := [(h0, .inr (7, [.ref h1, .ref z0, .ref z1, .ref h2, .ref z2, .ref z3, .int 0, .int 0, .int 0])), (h1, .inl (k0, 4, .inr (.inr (.inr (.inr (va_up (va_up (va_up (va_up (fun _ => none) 0 (some h4)) 1 (some h6)) 2 (some h8)) 3 (some h10))))))), (h2, .inr (6, [.ref h3, .int 3])), (h3, .inl (k1, 64, .inl f101)), (h4, .inr (6, [.ref h5, .int 0])), (h5, .inl (k2, 64, .inl (fun _ => 0))), (h6, .inr (6, [.ref h7, .int 0])), (h7, .inl (k3, 64, .inl (fun _ => 0))), (h8, .inr (6, [.ref h9, .int 0])), (h9, .inl (k4, 64, .inl (fun _ => 0))), (h10, .inr (6, [.ref h11, .int 0])), (h11, .inl (k5, 64, .inl (fun _ => 0)))]) [0, 1, 10, 11, 2, 3, 4, 5, 6, 7, 8, 9] (by decide) rfl
    have hK := hK.sub (tys' := [(k0, .object "Rewriterope$Text"), (k1, .byte), (k2, .byte), (k3, .byte), (k4, .byte), (k5, .byte)]) [0, 1, 2, 3, 4, 5] rfl
    have hl := lv_sub hl [0, 1] (show lv_pick [(0, .ref h0), (1, .int rp), (6, .int l5)] [0, 1] = [(0, .ref h0), (1, .int rp)] from rfl)
    exact kx_X3_type_h53 f101_t hR rp_l rp_u hx hb hr hml hown hts hlocks hA hS hK hP hD hl
set_option maxHeartbeats 4000000 in
set_option maxRecDepth 100000 in
theorem kx_X2_add_11 (l : Launch) (dC : Nat → ClassId) (dI : Nat → Nat → Nat) (h0 : Nat) (z0 : Nat) (sz : Nat) : Met l yX2_add wsX2_add ({ frames := 0, cells := 0, slots := 0, locals := 0 }) (va_Pc [.ref h0, .int (-1)] (fun U => U.heap.size = sz ∧ va_P (dC, dI) vwCl [(h0, .inr (6, [.ref z0, .int 3]))] U.heap ∧ va_K (dC, dI) vwCl [] U ∧ va_D (fun _ => True) [(h0, .inr (6, [.ref z0, .int 3]))])) (va_Qv (fun _ : Unit => True) (fun (_ : Unit) (t : State) => va_P (dC, dI) vwCl [(h0, .inr (6, [.ref z0, .int 3]))] t.heap ∧ va_K (dC, dI) vwCl [] t ∧ va_D (va_A [(h0, .inr (6, [.ref z0, .int 3]))] sz) [(h0, .inr (6, [.ref z0, .int 3]))]) (va_A [(h0, .inr (6, [.ref z0, .int 3]))] sz)) 0 0 (va_A [(h0, .inr (6, [.ref z0, .int 3]))] sz) := by
  refine Met.ofW (cc := cX2_add) (maxL := 2) (ret := none) (by decide) rfl ?_
  intro p e s m args below meth c s₁ B hml hv
  obtain ⟨rfl, hsz, hP, hK, hD0⟩ := hv
  have hx := B.exec
  have hb := B.bytes
  have hr := B.returns
  have hts := atoms_spec (ws := wsX2_add) B.pre
  have hown : s.vm.findClass RX2 = some m.cls := findClass_of_methodNamed B.named
  have hlocks := B.notSynchronized
  subst hsz
  have hD := hD0.self (sz := s.heap.size)
  generalize hAe : va_A [(h0, .inr (6, [.ref z0, .int 3]))] s.heap.size = A at hD ⊢
  have hA : ∀ q : Nat, s.heap.size ≤ q → A q := fun q h => by rw [← hAe]; exact Or.inr h
  have hS : va_S A s.heap s.heap [] := va_S.rf
  have hP : va_P (dC, dI) vwCl [(h0, .inr (6, [.ref z0, .int 3]))] s.heap := hP
  have hl := lv_entry ([.ref h0, .int (-1)]) (n := 2) (Nat.le_of_ble_eq_true rfl)
  rw [lg_entry_eq]
  generalize (lg_sl ([.ref h0, .int (-1)]) ++ List.replicate (2 - (lg_sl ([.ref h0, .int (-1)])).length) Slot.unset).toArray = ls at hl ⊢
  have hl : lv_has ls 2 [(0, .ref h0), (1, .int (-1))] := hl
  refine lv_iload_n hx hb dX2_add_0 rfl (lv_at hl 1 rfl) ?_
  refine lv_iconst (v := (-1)) hx hb dX2_add_1 (by decide) ?_
  refine lv_icmp_eq (tgt := 35) hx hb dX2_add_2 (by decide) (fun _ => ?_) (fun c9 => absurd (by decide) c9)
  exact W.vret hx hb hr (fun t ht hW => ⟨⟨(), rfl, trivial, by rw [ht]; exact hP, va_K.moved hW.alike hK, hD⟩, hS.F ht⟩) hS.2.2 dX2_add_35
set_option maxHeartbeats 4000000 in
set_option maxRecDepth 100000 in
theorem kx_X2_add_12 (l : Launch) (dC : Nat → ClassId) (dI : Nat → Nat → Nat) (h0 : Nat) (h1 : Nat) (k0 : ClassId) (sz : Nat) (f0 : Nat → Int32) (f0_t : sb_Fit f0) (i0 : Int32) (i0_l : (0 : Int) ≤ i0.toInt) (i0_u : i0.toInt ≤ (3 : Int)) : Met l yX2_add wsX2_add ({ frames := 0, cells := 0, slots := 0, locals := 0 }) (va_Pc [.ref h0, .int i0] (fun U => U.heap.size = sz ∧ va_P (dC, dI) vwCl [(h0, .inr (6, [.ref h1, .int 3])), (h1, .inl (k0, 64, .inl f0))] U.heap ∧ va_K (dC, dI) vwCl [(k0, .byte)] U ∧ va_D (fun _ => True) [(h0, .inr (6, [.ref h1, .int 3])), (h1, .inl (k0, 64, .inl f0))])) (va_Qv (fun _ : Unit => True) (fun (_ : Unit) (t : State) => ∃ f1 : Nat → Int32, sb_Fit f1 ∧ va_P (dC, dI) vwCl [(h0, .inr (6, [.ref h1, .int 4])), (h1, .inl (k0, 64, .inl f1))] t.heap ∧ va_K (dC, dI) vwCl [(k0, .byte)] t ∧ va_D (va_A [(h0, .inr (6, [.ref h1, .int 3])), (h1, .inl (k0, 64, .inl f0))] sz) [(h0, .inr (6, [.ref h1, .int 4])), (h1, .inl (k0, 64, .inl f1))]) (va_A [(h0, .inr (6, [.ref h1, .int 3])), (h1, .inl (k0, 64, .inl f0))] sz)) 0 0 (va_A [(h0, .inr (6, [.ref h1, .int 3])), (h1, .inl (k0, 64, .inl f0))] sz) := by
  refine Met.ofW (cc := cX2_add) (maxL := 2) (ret := none) (by decide) rfl ?_
  intro p e s m args below meth c s₁ B hml hv
  obtain ⟨rfl, hsz, hP, hK, hD0⟩ := hv
  have hx := B.exec
  have hb := B.bytes
  have hr := B.returns
  have hts := atoms_spec (ws := wsX2_add) B.pre
  have hown : s.vm.findClass RX2 = some m.cls := findClass_of_methodNamed B.named
  have hlocks := B.notSynchronized
  subst hsz
  have hD := hD0.self (sz := s.heap.size)
  generalize hAe : va_A [(h0, .inr (6, [.ref h1, .int 3])), (h1, .inl (k0, 64, .inl f0))] s.heap.size = A at hD ⊢
  have hA : ∀ q : Nat, s.heap.size ≤ q → A q := fun q h => by rw [← hAe]; exact Or.inr h
  have hS : va_S A s.heap s.heap [] := va_S.rf
  have hP : va_P (dC, dI) vwCl [(h0, .inr (6, [.ref h1, .int 3])), (h1, .inl (k0, 64, .inl f0))] s.heap := hP
  have hl := lv_entry ([.ref h0, .int i0]) (n := 2) (Nat.le_of_ble_eq_true rfl)
  rw [lg_entry_eq]
  generalize (lg_sl ([.ref h0, .int i0]) ++ List.replicate (2 - (lg_sl ([.ref h0, .int i0])).length) Slot.unset).toArray = ls at hl ⊢
  have hl : lv_has ls 2 [(0, .ref h0), (1, .int i0)] := hl
  refine lv_iload_n hx hb dX2_add_0 rfl (lv_at hl 1 rfl) ?_
  refine lv_iconst (v := (-1)) hx hb dX2_add_1 (by decide) ?_
  refine lv_icmp_eq (tgt := 35) hx hb dX2_add_2 (by decide) (fun c9 => absurd c9 (fun c8 => absurd (congrArg Int32.toInt c8) (by rw [show ((-1) : Int32).toInt = (-1) from by decide]; omega))) (fun _ => ?_)
  refine lv_aload_n hx hb dX2_add_5 rfl (lv_at hl 0 rfl) ?_
  refine va_get (D := (dC, dI)) (ci := 6) (v := .int 3) (C := RX2) (T := TX2) (N := 2) hx hb hts (by decide +kernel) hown hK hP 0 rfl rfl 1 (by decide) (hts (.fieldLink RX2 15 "Rewriterope$Text" "length" "I") (by decide +kernel)) (fun _ h9 => h9) rfl dX2_add_6 ?_
  refine lv_bipush (v := 64) hx hb dX2_add_9 (by decide) ?_
  refine lv_icmp_ge (tgt := 35) hx hb dX2_add_11 (by decide) (fun c9 => absurd c9 (by decide)) (fun _ => ?_)
  refine lv_aload_n hx hb dX2_add_14 rfl (lv_at hl 0 rfl) ?_
  refine va_get (D := (dC, dI)) (ci := 6) (v := .ref h1) (C := RX2) (T := TX2) (N := 2) hx hb hts (by decide +kernel) hown hK hP 0 rfl rfl 0 (by decide) (hts (.fieldLink RX2 11 "Rewriterope$Text" "letters" "[B") (by decide +kernel)) (fun _ h9 => h9) rfl dX2_add_15 ?_
  refine lv_aload_n hx hb dX2_add_18 rfl (lv_at hl 0 rfl) ?_
  refine va_get (D := (dC, dI)) (ci := 6) (v := .int 3) (C := RX2) (T := TX2) (N := 2) hx hb hts (by decide +kernel) hown hK hP 0 rfl rfl 1 (by decide) (hts (.fieldLink RX2 15 "Rewriterope$Text" "length" "I") (by decide +kernel)) (fun _ h9 => h9) rfl dX2_add_19 ?_
  refine lv_iload_n hx hb dX2_add_22 rfl (lv_at hl 1 rfl) ?_
  refine lv_i2b (v := i0) hx hb dX2_add_23 (kz_i2b i0_l i0_u) ?_
  refine va_bast (D := (dC, dI)) hx hb hK hP hD hS 1 0 rfl rfl (by unfold vp_in; decide) dX2_add_24 (fun H locs hP hD hS => ?_)
  rw [kz_nar i0_l i0_u] at hP hD
  have hP : va_P (dC, dI) vwCl [(h0, .inr (6, [.ref h1, .int 3])), (h1, .inl (k0, 64, .inl (upd f0 3 i0)))] H := hP
  have hD : va_D A [(h0, .inr (6, [.ref h1, .int 3])), (h1, .inl (k0, 64, .inl (upd f0 3 i0)))] := hD
  obtain ⟨f1, hf1⟩ : ∃ f : Nat → Int32, f = upd f0 3 i0 := ⟨_, rfl⟩
  have f1_t : sb_Fit f1 := by rw [hf1]; exact sb_fitU f0_t (kz_fit4 i0_l i0_u)
  rw [← hf1] at hP hD
  refine lv_aload_n hx hb dX2_add_25 rfl (lv_at hl 0 rfl) ?_
  refine lv_dup hx hb dX2_add_26 rfl ?_
  refine va_get (D := (dC, dI)) (ci := 6) (v := .int 3) (C := RX2) (T := TX2) (N := 2) hx hb hts (by decide +kernel) hown hK hP 0 rfl rfl 1 (by decide) (hts (.fieldLink RX2 15 "Rewriterope$Text" "length" "I") (by decide +kernel)) (fun _ h9 => h9) rfl dX2_add_27 ?_
  refine lv_iconst (v := 1) hx hb dX2_add_30 (by decide) ?_
  refine lv_iadd hx hb dX2_add_31 ?_
  refine lv_topi (fun y2 ey2 => ?_)
  obtain rfl : y2 = 4 := ey2.trans (by decide)
  refine va_put (D := (dC, dI)) (ci := 6) (v := .int 4) (ty := .int) (C := RX2) (T := TX2) (N := 2) hx hb hts (by decide +kernel) tyX2 tyX2_ok nmX2 hown hK hP hD hS 0 rfl rfl 1 (by decide) (hts (.fieldLink RX2 15 "Rewriterope$Text" "length" "I") (by decide +kernel)) (fun _ h9 => h9) rfl (by decide +kernel) rfl rfl (Nat.le_of_ble_eq_true rfl) dX2_add_32 (fun H locs hP hD hS => ?_)
  have hP : va_P (dC, dI) vwCl [(h0, .inr (6, [.ref h1, .int 4])), (h1, .inl (k0, 64, .inl f1))] H := hP
  have hD : va_D A [(h0, .inr (6, [.ref h1, .int 4])), (h1, .inl (k0, 64, .inl f1))] := hD
  exact W.vret hx hb hr (fun t ht hW => ⟨⟨(), rfl, trivial, f1, f1_t, by rw [ht]; exact hP, va_K.moved hW.alike hK, hD⟩, hS.F ht⟩) hS.2.2 dX2_add_35
set_option maxHeartbeats 8000000 in
set_option maxRecDepth 100000 in
theorem kx_X3_type_h43 {l : Launch} {dC : Nat → ClassId} {dI : Nat → Nat → Nat} {h0 h1 h2 h3 h4 h5 h6 h7 h8 h9 h10 h11 z0 z1 z2 z3 : Nat} {k0 k1 k2 k3 k4 k5 : ClassId} {rp l5 R : Int32} {p : Program} {e : Env} {s : State} {m : MethodId} {args : Array Value} {below : List Frame} {meth : Method} {c : Code} {A : Nat → Prop} {H : Heap} {locs : List Loc} {ls : Array Slot} {f0 : Nat → Int32} (f0_t : sb_Fit f0) (hR : kz_ct 3 [l5] = R) (rp_l : (0 : Int) ≤ rp.toInt) (rp_u : rp.toInt ≤ (3 : Int)) (l5_l : (-1 : Int) ≤ l5.toInt) (l5_u : l5.toInt ≤ (3 : Int)) (hx : p.tables.exec = Jvm.exec) (hb : c.code = cX3_type) (hr : meth.sig.returnType = some .int) (hml : c.maxLocals = 8) (hown : s.vm.findClass RX3 = some m.cls) (hts : ∀ w ∈ wsX3_type, w.before args s = true) (hlocks : meth.locks = false) (hA : ∀ q : Nat, s.heap.size ≤ q → A q) (hS : va_S A s.heap H locs) (hK : va_K (dC, dI) vwCl [(k0, .object "Rewriterope$Text"), (k1, .byte), (k2, .byte), (k3, .byte), (k4, .byte), (k5, .byte)] s) (hP : va_P (dC, dI) vwCl [(h0, .inr (7, [.ref h1, .ref z0, .ref z1, .ref h2, .ref z2, .ref z3, .int 0, .int 0, .int 0])), (h1, .inl (k0, 4, .inr (.inr (.inr (.inr (va_up (va_up (va_up (va_up (fun _ => none) 0 (some h4)) 1 (some h6)) 2 (some h8)) 3 (some h10))))))), (h2, .inr (6, [.ref h3, .int 3])), (h3, .inl (k1, 64, .inl f0)), (h4, .inr (6, [.ref h5, .int 0])), (h5, .inl (k2, 64, .inl (fun _ => 0))), (h6, .inr (6, [.ref h7, .int 0])), (h7, .inl (k3, 64, .inl (fun _ => 0))), (h8, .inr (6, [.ref h9, .int 0])), (h9, .inl (k4, 64, .inl (fun _ => 0))), (h10, .inr (6, [.ref h11, .int 0])), (h11, .inl (k5, 64, .inl (fun _ => 0)))] H) (hD : va_D A [(h0, .inr (7, [.ref h1, .ref z0, .ref z1, .ref h2, .ref z2, .ref z3, .int 0, .int 0, .int 0])), (h1, .inl (k0, 4, .inr (.inr (.inr (.inr (va_up (va_up (va_up (va_up (fun _ => none) 0 (some h4)) 1 (some h6)) 2 (some h8)) 3 (some h10))))))), (h2, .inr (6, [.ref h3, .int 3])), (h3, .inl (k1, 64, .inl f0)), (h4, .inr (6, [.ref h5, .int 0])), (h5, .inl (k2, 64, .inl (fun _ => 0))), (h6, .inr (6, [.ref h7, .int 0])), (h7, .inl (k3, 64, .inl (fun _ => 0))), (h8, .inr (6, [.ref h9, .int 0])), (h9, .inl (k4, 64, .inl (fun _ => 0))), (h10, .inr (6, [.ref h11, .int 0])), (h11, .inl (k5, 64, .inl (fun _ => 0)))]) (hl : lv_has ls 8 [(0, .ref h0), (1, .int rp), (6, .int l5)]) : W p l e (headSpec wsX3_type ({ frames := 2, cells := 0, slots := 0, locals := 84 })).room s m args below meth c H locs 0 0 (MQ below (va_Qi (fun (r : Int32) (_ : Unit) => r = R) (fun (_ : Unit) (t : State) => va_P (dC, dI) vwCl [(h0, .inr (7, [.ref h1, .ref z0, .ref z1, .ref h2, .ref z2, .ref z3, .int 0, .int 0, .int 0]))] t.heap ∧ va_K (dC, dI) vwCl [(k0, .object "Rewriterope$Text"), (k1, .byte), (k2, .byte), (k3, .byte), (k4, .byte), (k5, .byte)] t ∧ va_D A [(h0, .inr (7, [.ref h1, .ref z0, .ref z1, .ref h2, .ref z2, .ref z3, .int 0, .int 0, .int 0]))]) A) args s 0 0 A) (F0 m 68 ls []) := by
  rcases Int.lt_or_le l5.toInt 0 with r9 | r9
  · obtain rfl : l5 = -1 := Int32.toInt_inj.mp (by rw [show (-1 : Int32).toInt = -1 from by decide]; omega)
    have hR : kz_ct 3 [] = R := kz_ct_n.symm.trans hR
    refine lv_aload_n hx hb dX3_type_68 rfl (lv_at hl 0 rfl) ?_
    refine va_get (D := (dC, dI)) (ci := 7) (v := .ref h2) (C := RX3) (T := TX3) (N := 9) hx hb hts (by decide +kernel) hown hK hP 0 rfl rfl 3 (by decide) (hts (.fieldLink RX3 32 "Rewriterope" "work" "LRewriterope$Text;") (by decide +kernel)) (fun _ h9 => h9) rfl dX3_type_69 ?_
    refine lv_iload hx hb dX3_type_72 (lv_at hl 2 rfl) ?_
    have hPc := hP.sub (ws' := [(h2, .inr (6, [.ref h3, .int 3]))]) [2] rfl
    have hDc := hD.sub (ws' := [(h2, .inr (6, [.ref h3, .int 3]))]) [2] (by decide) rfl
    have hKc := hK.sub (tys' := []) [] rfl
    have hFc := va_free (wc := [(h2, .inr (6, [.ref h3, .int 3]))]) hD hS hA [2] rfl
    refine va_callv (va_runV (As := [.int (-1)]) (rest := []) ⟨hx, hb, hml, hown, hts⟩ (kx_X2_add_11 l dC dI h2 h3 H.size) (cwV 1 hts gX3_type_X2_add rfl rfl rfl (by decide +kernel) ⟨Nat.le_of_ble_eq_true rfl, Nat.le_of_ble_eq_true rfl⟩) ⟨fun a U g mk q => by obtain ⟨q0, q1, qP, qK, qD⟩ := q; exact ⟨q0, q1, qP, va_K.moved (u := U) (U := U.calling g mk a) (Vm.Alike.refl U.vm) qK, qD⟩, va_recv hKc hPc (ci := 6) (q0 := 0) rfl rfl, fun U hU hW => ⟨rfl, by rw [hU], by rw [hU]; exact hPc, va_K.moved hW.alike hKc, hDc.weaken (fun _ _ _ _ => trivial)⟩⟩ rfl rfl hl.1 rfl (lv_room (Nat.le_of_ble_eq_true rfl)) dX3_type_74 ⟨Nat.le_of_ble_eq_true rfl, Nat.le_of_ble_eq_true rfl⟩) hS (fun q _ h => hFc q h) hFc (fun u t H1 locs ht hvm hw hB hz1 hk1 hS => ?_)
    obtain ⟨hP1, hK1, hD1⟩ := hB
    rw [ht] at hP1
    have hK1 := va_K.moved hvm.symm hK1
    obtain ⟨hP, hD⟩ := va_join (wr := [(h0, .inr (7, [.ref h1, .ref z0, .ref z1, .ref h2, .ref z2, .ref z3, .int 0, .int 0, .int 0])), (h1, .inl (k0, 4, .inr (.inr (.inr (.inr (va_up (va_up (va_up (va_up (fun _ => none) 0 (some h4)) 1 (some h6)) 2 (some h8)) 3 (some h10))))))), (h3, .inl (k1, 64, .inl f0)), (h4, .inr (6, [.ref h5, .int 0])), (h5, .inl (k2, 64, .inl (fun _ => 0))), (h6, .inr (6, [.ref h7, .int 0])), (h7, .inl (k3, 64, .inl (fun _ => 0))), (h8, .inr (6, [.ref h9, .int 0])), (h9, .inl (k4, 64, .inl (fun _ => 0))), (h10, .inr (6, [.ref h11, .int 0])), (h11, .inl (k5, 64, .inl (fun _ => 0)))]) (w1 := [(h2, .inr (6, [.ref h3, .int 3]))]) hP hD [2] [0, 1, 3, 4, 5, 6, 7, 8, 9, 10, 11] rfl rfl (by decide) (by decide) hk1 hFc hP1 hD1
    generalize H1 = H at hP hS ⊢
    have hP : va_P (dC, dI) vwCl [(h0, .inr (7, [.ref h1, .ref z0, .ref z1, .ref h2, .ref z2, .ref z3, .int 0, .int 0, .int 0])), (h1, .inl (k0, 4, .inr (.inr (.inr (.inr (va_up (va_up (va_up (va_up (fun _ => none) 0 (some h4)) 1 (some h6)) 2 (some h8)) 3 (some h10))))))), (h3, .inl (k1, 64, .inl f0)), (h4, .inr (6, [.ref h5, .int 0])), (h5, .inl (k2, 64, .inl (fun _ => 0))), (h6, .inr (6, [.ref h7, .int 0])), (h7, .inl (k3, 64, .inl (fun _ => 0))), (h8, .inr (6, [.ref h9, .int 0])), (h9, .inl (k4, 64, .inl (fun _ => 0))), (h10, .inr (6, [.ref h11, .int 0])), (h11, .inl (k5, 64, .inl (fun _ => 0))), (h2, .inr (6, [.ref h3, .int 3]))] H := hP
    have hD : va_D A [(h0, .inr (7, [.ref h1, .ref z0, .ref z1, .ref h2, .ref z2, .ref z3, .int 0, .int 0, .int 0])), (h1, .inl (k0, 4, .inr (.inr (.inr (.inr (va_up (va_up (va_up (va_up (fun _ => none) 0 (some h4)) 1 (some h6)) 2 (some h8)) 3 (some h10))))))), (h3, .inl (k1, 64, .inl f0)), (h4, .inr (6, [.ref h5, .int 0])), (h5, .inl (k2, 64, .inl (fun _ => 0))), (h6, .inr (6, [.ref h7, .int 0])), (h7, .inl (k3, 64, .inl (fun _ => 0))), (h8, .inr (6, [.ref h9, .int 0])), (h9, .inl (k4, 64, .inl (fun _ => 0))), (h10, .inr (6, [.ref h11, .int 0])), (h11, .inl (k5, 64, .inl (fun _ => 0))), (h2, .inr (6, [.ref h3, .int 3]))] := hD
    have hP := hP.sub (ws' := [(h0, .inr (7, [.ref h1, .ref z0, .ref z1, .ref h2, .ref z2, .ref z3, .int 0, .int 0, .int 0])), (h1, .inl (k0, 4, .inr (.inr (.inr (.inr (va_up (va_up (va_up (va_up (fun _ => none) 0 (some h4)) 1 (some h6)) 2 (some h8)) 3 (some h10))))))), (h2, .inr (6, [.ref h3, .int 3])), (h3, .inl (k1, 64, .inl f0)), (h4, .inr (6, [.ref h5, .int 0])), (h5, .inl (k2, 64, .inl (fun _ => 0))), (h6, .inr (6, [.ref h7, .int 0])), (h7, .inl (k3, 64, .inl (fun _ => 0))), (h8, .inr (6, [.ref h9, .int 0])), (h9, .inl (k4, 64, .inl (fun _ => 0))), (h10, .inr (6, [.ref h11, .int 0])), (h11, .inl (k5, 64, .inl (fun _ => 0)))]) [0, 1, 11, 2, 3, 4, 5, 6, 7, 8, 9, 10] rfl
    have hD := hD.sub (ws' := [(h0, .inr (7, [.ref h1, .ref z0, .ref z1, .ref h2, .ref z2, .ref z3, .int 0, .int 0, .int 0])), (h1, .inl (k0, 4, .inr (.inr (.inr (.inr (va_up (va_up (va_up (va_up (fun _ => none) 0 (some h4)) 1 (some h6)) 2 (some h8)) 3 (some h10))))))), (h2, .inr (6, [.ref h3, .int 3])), (h3, .inl (k1, 64, .inl f0)), (h4, .inr (6, [.ref h5, .int 0])), (h5, .inl (k2, 64, .inl (fun _ => 0))), (h6, .inr (6, [.ref h7, .int 0])), (h7, .inl (k3, 64, .inl (fun _ => 0))), (h8, .inr (6, [.ref h9, .int 0])), (h9, .inl (k4, 64, .inl (fun _ => 0))), (h10, .inr (6, [.ref h11, .int 0])), (h11, .inl (k5, 64, .inl (fun _ => 0)))]) [0, 1, 11, 2, 3, 4, 5, 6, 7, 8, 9, 10] (by decide) rfl
    have hK := hK.sub (tys' := [(k0, .object "Rewriterope$Text"), (k1, .byte), (k2, .byte), (k3, .byte), (k4, .byte), (k5, .byte)]) [0, 1, 2, 3, 4, 5] rfl
    have hl := lv_sub hl [0, 1] (show lv_pick [(0, .ref h0), (1, .int rp), (6, .int (-1))] [0, 1] = [(0, .ref h0), (1, .int rp)] from rfl)
    exact kx_X3_type_h53 f0_t hR rp_l rp_u hx hb hr hml hown hts hlocks hA hS hK hP hD hl
  · have l5_l : (0 : Int) ≤ l5.toInt := r9
    have hR : kz_ct 4 [] = R := (kz_ct_g l5_l).symm.trans hR
    refine lv_aload_n hx hb dX3_type_68 rfl (lv_at hl 0 rfl) ?_
    refine va_get (D := (dC, dI)) (ci := 7) (v := .ref h2) (C := RX3) (T := TX3) (N := 9) hx hb hts (by decide +kernel) hown hK hP 0 rfl rfl 3 (by decide) (hts (.fieldLink RX3 32 "Rewriterope" "work" "LRewriterope$Text;") (by decide +kernel)) (fun _ h9 => h9) rfl dX3_type_69 ?_
    refine lv_iload hx hb dX3_type_72 (lv_at hl 2 rfl) ?_
    have hPc := hP.sub (ws' := [(h2, .inr (6, [.ref h3, .int 3])), (h3, .inl (k1, 64, .inl f0))]) [2, 3] rfl
    have hDc := hD.sub (ws' := [(h2, .inr (6, [.ref h3, .int 3])), (h3, .inl (k1, 64, .inl f0))]) [2, 3] (by decide) rfl
    have hKc := hK.sub (tys' := [(k1, .byte)]) [1] rfl
    have hFc := va_free (wc := [(h2, .inr (6, [.ref h3, .int 3])), (h3, .inl (k1, 64, .inl f0))]) hD hS hA [2, 3] rfl
    refine va_callv (va_runV (As := [.int l5]) (rest := []) ⟨hx, hb, hml, hown, hts⟩ (kx_X2_add_12 l dC dI h2 h3 k1 H.size f0 f0_t l5 l5_l l5_u) (cwV 1 hts gX3_type_X2_add rfl rfl rfl (by decide +kernel) ⟨Nat.le_of_ble_eq_true rfl, Nat.le_of_ble_eq_true rfl⟩) ⟨fun a U g mk q => by obtain ⟨q0, q1, qP, qK, qD⟩ := q; exact ⟨q0, q1, qP, va_K.moved (u := U) (U := U.calling g mk a) (Vm.Alike.refl U.vm) qK, qD⟩, va_recv hKc hPc (ci := 6) (q0 := 0) rfl rfl, fun U hU hW => ⟨rfl, by rw [hU], by rw [hU]; exact hPc, va_K.moved hW.alike hKc, hDc.weaken (fun _ _ _ _ => trivial)⟩⟩ rfl rfl hl.1 rfl (lv_room (Nat.le_of_ble_eq_true rfl)) dX3_type_74 ⟨Nat.le_of_ble_eq_true rfl, Nat.le_of_ble_eq_true rfl⟩) hS (fun q _ h => hFc q h) hFc (fun u t H1 locs ht hvm hw hB hz1 hk1 hS => ?_)
    obtain ⟨f101, f101_t, hP1, hK1, hD1⟩ := hB
    rw [ht] at hP1
    have hK1 := va_K.moved hvm.symm hK1
    obtain ⟨hP, hD⟩ := va_join (wr := [(h0, .inr (7, [.ref h1, .ref z0, .ref z1, .ref h2, .ref z2, .ref z3, .int 0, .int 0, .int 0])), (h1, .inl (k0, 4, .inr (.inr (.inr (.inr (va_up (va_up (va_up (va_up (fun _ => none) 0 (some h4)) 1 (some h6)) 2 (some h8)) 3 (some h10))))))), (h4, .inr (6, [.ref h5, .int 0])), (h5, .inl (k2, 64, .inl (fun _ => 0))), (h6, .inr (6, [.ref h7, .int 0])), (h7, .inl (k3, 64, .inl (fun _ => 0))), (h8, .inr (6, [.ref h9, .int 0])), (h9, .inl (k4, 64, .inl (fun _ => 0))), (h10, .inr (6, [.ref h11, .int 0])), (h11, .inl (k5, 64, .inl (fun _ => 0)))]) (w1 := [(h2, .inr (6, [.ref h3, .int 4])), (h3, .inl (k1, 64, .inl f101))]) hP hD [2, 3] [0, 1, 4, 5, 6, 7, 8, 9, 10, 11] rfl rfl (by decide) (by decide) hk1 hFc hP1 hD1
    generalize H1 = H at hP hS ⊢
    have hP : va_P (dC, dI) vwCl [(h0, .inr (7, [.ref h1, .ref z0, .ref z1, .ref h2, .ref z2, .ref z3, .int 0, .int 0, .int 0])), (h1, .inl (k0, 4, .inr (.inr (.inr (.inr (va_up (va_up (va_up (va_up (fun _ => none) 0 (some h4)) 1 (some h6)) 2 (some h8)) 3 (some h10))))))), (h4, .inr (6, [.ref h5, .int 0])), (h5, .inl (k2, 64, .inl (fun _ => 0))), (h6, .inr (6, [.ref h7, .int 0])), (h7, .inl (k3, 64, .inl (fun _ => 0))), (h8, .inr (6, [.ref h9, .int 0])), (h9, .inl (k4, 64, .inl (fun _ => 0))), (h10, .inr (6, [.ref h11, .int 0])), (h11, .inl (k5, 64, .inl (fun _ => 0))), (h2, .inr (6, [.ref h3, .int 4])), (h3, .inl (k1, 64, .inl f101))] H := hP
    have hD : va_D A [(h0, .inr (7, [.ref h1, .ref z0, .ref z1, .ref h2, .ref z2, .ref z3, .int 0, .int 0, .int 0])), (h1, .inl (k0, 4, .inr (.inr (.inr (.inr (va_up (va_up (va_up (va_up (fun _ => none) 0 (some h4)) 1 (some h6)) 2 (some h8)) 3 (some h10))))))), (h4, .inr (6, [.ref h5, .int 0])), (h5, .inl (k2, 64, .inl (fun _ => 0))), (h6, .inr (6, [.ref h7, .int 0])), (h7, .inl (k3, 64, .inl (fun _ => 0))), (h8, .inr (6, [.ref h9, .int 0])), (h9, .inl (k4, 64, .inl (fun _ => 0))), (h10, .inr (6, [.ref h11, .int 0])), (h11, .inl (k5, 64, .inl (fun _ => 0))), (h2, .inr (6, [.ref h3, .int 4])), (h3, .inl (k1, 64, .inl f101))] := hD
    have hP := hP.sub (ws' := [(h0, .inr (7, [.ref h1, .ref z0, .ref z1, .ref h2, .ref z2, .ref z3, .int 0, .int 0, .int 0])), (h1, .inl (k0, 4, .inr (.inr (.inr (.inr (va_up (va_up (va_up (va_up (fun _ => none) 0 (some h4)) 1 (some h6)) 2 (some h8)) 3 (some h10))))))), (h2, .inr (6, [.ref h3, .int 4])), (h3, .inl (k1, 64, .inl f101)), (h4, .inr (6, [.ref h5, .int 0])), (h5, .inl (k2, 64, .inl (fun _ => 0))), (h6, .inr (6, [.ref h7, .int 0])), (h7, .inl (k3, 64, .inl (fun _ => 0))), (h8, .inr (6, [.ref h9, .int 0])), (h9, .inl (k4, 64, .inl (fun _ => 0))), (h10, .inr (6, [.ref h11, .int 0])), (h11, .inl (k5, 64, .inl (fun _ => 0)))]) [0, 1, 10, 11, 2, 3, 4, 5, 6, 7, 8, 9] rfl
    have hD := hD.sub (ws' := [(h0, .inr (7, [.ref h1, .ref z0, .ref z1, .ref h2, .ref z2, .ref z3, .int 0, .int 0, .int 0])), (h1, .inl (k0, 4, .inr (.inr (.inr (.inr (va_up (va_up (va_up (va_up (fun _ => none) 0 (some h4)) 1 (some h6)) 2 (some h8)) 3 (some h10))))))), (h2, .inr (6, [.ref h3, .int 4])), (h3, .inl (k1, 64, .inl f101)), (h4, .inr (6, [.ref h5, .int 0])), (h5, .inl (k2, 64, .inl (fun _ => 0))), (h6, .inr (6, [.ref h7, .int 0])), (h7, .inl (k3, 64, .inl (fun _ => 0))), (h8, .inr (6, [.ref h9, .int 0])), (h9, .inl (k4, 64, .inl (fun _ => 0))), (h10, .inr (6, [.ref h11, .int 0])), (h11, .inl (k5, 64, .inl (fun _ => 0)))]) [0, 1, 10, 11, 2, 3, 4, 5, 6, 7, 8, 9] (by decide) rfl
    have hK := hK.sub (tys' := [(k0, .object "Rewriterope$Text"), (k1, .byte), (k2, .byte), (k3, .byte), (k4, .byte), (k5, .byte)]) [0, 1, 2, 3, 4, 5] rfl
    have hl := lv_sub hl [0, 1] (show lv_pick [(0, .ref h0), (1, .int rp), (6, .int l5)] [0, 1] = [(0, .ref h0), (1, .int rp)] from rfl)
    exact kx_X3_type_h54 f101_t hR rp_l rp_u hx hb hr hml hown hts hlocks hA hS hK hP hD hl
set_option maxHeartbeats 4000000 in
set_option maxRecDepth 100000 in
theorem kx_X2_add_13 (l : Launch) (dC : Nat → ClassId) (dI : Nat → Nat → Nat) (h0 : Nat) (z0 : Nat) (sz : Nat) : Met l yX2_add wsX2_add ({ frames := 0, cells := 0, slots := 0, locals := 0 }) (va_Pc [.ref h0, .int (-1)] (fun U => U.heap.size = sz ∧ va_P (dC, dI) vwCl [(h0, .inr (6, [.ref z0, .int 4]))] U.heap ∧ va_K (dC, dI) vwCl [] U ∧ va_D (fun _ => True) [(h0, .inr (6, [.ref z0, .int 4]))])) (va_Qv (fun _ : Unit => True) (fun (_ : Unit) (t : State) => va_P (dC, dI) vwCl [(h0, .inr (6, [.ref z0, .int 4]))] t.heap ∧ va_K (dC, dI) vwCl [] t ∧ va_D (va_A [(h0, .inr (6, [.ref z0, .int 4]))] sz) [(h0, .inr (6, [.ref z0, .int 4]))]) (va_A [(h0, .inr (6, [.ref z0, .int 4]))] sz)) 0 0 (va_A [(h0, .inr (6, [.ref z0, .int 4]))] sz) := by
  refine Met.ofW (cc := cX2_add) (maxL := 2) (ret := none) (by decide) rfl ?_
  intro p e s m args below meth c s₁ B hml hv
  obtain ⟨rfl, hsz, hP, hK, hD0⟩ := hv
  have hx := B.exec
  have hb := B.bytes
  have hr := B.returns
  have hts := atoms_spec (ws := wsX2_add) B.pre
  have hown : s.vm.findClass RX2 = some m.cls := findClass_of_methodNamed B.named
  have hlocks := B.notSynchronized
  subst hsz
  have hD := hD0.self (sz := s.heap.size)
  generalize hAe : va_A [(h0, .inr (6, [.ref z0, .int 4]))] s.heap.size = A at hD ⊢
  have hA : ∀ q : Nat, s.heap.size ≤ q → A q := fun q h => by rw [← hAe]; exact Or.inr h
  have hS : va_S A s.heap s.heap [] := va_S.rf
  have hP : va_P (dC, dI) vwCl [(h0, .inr (6, [.ref z0, .int 4]))] s.heap := hP
  have hl := lv_entry ([.ref h0, .int (-1)]) (n := 2) (Nat.le_of_ble_eq_true rfl)
  rw [lg_entry_eq]
  generalize (lg_sl ([.ref h0, .int (-1)]) ++ List.replicate (2 - (lg_sl ([.ref h0, .int (-1)])).length) Slot.unset).toArray = ls at hl ⊢
  have hl : lv_has ls 2 [(0, .ref h0), (1, .int (-1))] := hl
  refine lv_iload_n hx hb dX2_add_0 rfl (lv_at hl 1 rfl) ?_
  refine lv_iconst (v := (-1)) hx hb dX2_add_1 (by decide) ?_
  refine lv_icmp_eq (tgt := 35) hx hb dX2_add_2 (by decide) (fun _ => ?_) (fun c9 => absurd (by decide) c9)
  exact W.vret hx hb hr (fun t ht hW => ⟨⟨(), rfl, trivial, by rw [ht]; exact hP, va_K.moved hW.alike hK, hD⟩, hS.F ht⟩) hS.2.2 dX2_add_35
set_option maxHeartbeats 4000000 in
set_option maxRecDepth 100000 in
theorem kx_X2_add_14 (l : Launch) (dC : Nat → ClassId) (dI : Nat → Nat → Nat) (h0 : Nat) (h1 : Nat) (k0 : ClassId) (sz : Nat) (f0 : Nat → Int32) (f0_t : sb_Fit f0) (i0 : Int32) (i0_l : (0 : Int) ≤ i0.toInt) (i0_u : i0.toInt ≤ (3 : Int)) : Met l yX2_add wsX2_add ({ frames := 0, cells := 0, slots := 0, locals := 0 }) (va_Pc [.ref h0, .int i0] (fun U => U.heap.size = sz ∧ va_P (dC, dI) vwCl [(h0, .inr (6, [.ref h1, .int 4])), (h1, .inl (k0, 64, .inl f0))] U.heap ∧ va_K (dC, dI) vwCl [(k0, .byte)] U ∧ va_D (fun _ => True) [(h0, .inr (6, [.ref h1, .int 4])), (h1, .inl (k0, 64, .inl f0))])) (va_Qv (fun _ : Unit => True) (fun (_ : Unit) (t : State) => ∃ f1 : Nat → Int32, sb_Fit f1 ∧ va_P (dC, dI) vwCl [(h0, .inr (6, [.ref h1, .int 5])), (h1, .inl (k0, 64, .inl f1))] t.heap ∧ va_K (dC, dI) vwCl [(k0, .byte)] t ∧ va_D (va_A [(h0, .inr (6, [.ref h1, .int 4])), (h1, .inl (k0, 64, .inl f0))] sz) [(h0, .inr (6, [.ref h1, .int 5])), (h1, .inl (k0, 64, .inl f1))]) (va_A [(h0, .inr (6, [.ref h1, .int 4])), (h1, .inl (k0, 64, .inl f0))] sz)) 0 0 (va_A [(h0, .inr (6, [.ref h1, .int 4])), (h1, .inl (k0, 64, .inl f0))] sz) := by
  refine Met.ofW (cc := cX2_add) (maxL := 2) (ret := none) (by decide) rfl ?_
  intro p e s m args below meth c s₁ B hml hv
  obtain ⟨rfl, hsz, hP, hK, hD0⟩ := hv
  have hx := B.exec
  have hb := B.bytes
  have hr := B.returns
  have hts := atoms_spec (ws := wsX2_add) B.pre
  have hown : s.vm.findClass RX2 = some m.cls := findClass_of_methodNamed B.named
  have hlocks := B.notSynchronized
  subst hsz
  have hD := hD0.self (sz := s.heap.size)
  generalize hAe : va_A [(h0, .inr (6, [.ref h1, .int 4])), (h1, .inl (k0, 64, .inl f0))] s.heap.size = A at hD ⊢
  have hA : ∀ q : Nat, s.heap.size ≤ q → A q := fun q h => by rw [← hAe]; exact Or.inr h
  have hS : va_S A s.heap s.heap [] := va_S.rf
  have hP : va_P (dC, dI) vwCl [(h0, .inr (6, [.ref h1, .int 4])), (h1, .inl (k0, 64, .inl f0))] s.heap := hP
  have hl := lv_entry ([.ref h0, .int i0]) (n := 2) (Nat.le_of_ble_eq_true rfl)
  rw [lg_entry_eq]
  generalize (lg_sl ([.ref h0, .int i0]) ++ List.replicate (2 - (lg_sl ([.ref h0, .int i0])).length) Slot.unset).toArray = ls at hl ⊢
  have hl : lv_has ls 2 [(0, .ref h0), (1, .int i0)] := hl
  refine lv_iload_n hx hb dX2_add_0 rfl (lv_at hl 1 rfl) ?_
  refine lv_iconst (v := (-1)) hx hb dX2_add_1 (by decide) ?_
  refine lv_icmp_eq (tgt := 35) hx hb dX2_add_2 (by decide) (fun c9 => absurd c9 (fun c8 => absurd (congrArg Int32.toInt c8) (by rw [show ((-1) : Int32).toInt = (-1) from by decide]; omega))) (fun _ => ?_)
  refine lv_aload_n hx hb dX2_add_5 rfl (lv_at hl 0 rfl) ?_
  refine va_get (D := (dC, dI)) (ci := 6) (v := .int 4) (C := RX2) (T := TX2) (N := 2) hx hb hts (by decide +kernel) hown hK hP 0 rfl rfl 1 (by decide) (hts (.fieldLink RX2 15 "Rewriterope$Text" "length" "I") (by decide +kernel)) (fun _ h9 => h9) rfl dX2_add_6 ?_
  refine lv_bipush (v := 64) hx hb dX2_add_9 (by decide) ?_
  refine lv_icmp_ge (tgt := 35) hx hb dX2_add_11 (by decide) (fun c9 => absurd c9 (by decide)) (fun _ => ?_)
  refine lv_aload_n hx hb dX2_add_14 rfl (lv_at hl 0 rfl) ?_
  refine va_get (D := (dC, dI)) (ci := 6) (v := .ref h1) (C := RX2) (T := TX2) (N := 2) hx hb hts (by decide +kernel) hown hK hP 0 rfl rfl 0 (by decide) (hts (.fieldLink RX2 11 "Rewriterope$Text" "letters" "[B") (by decide +kernel)) (fun _ h9 => h9) rfl dX2_add_15 ?_
  refine lv_aload_n hx hb dX2_add_18 rfl (lv_at hl 0 rfl) ?_
  refine va_get (D := (dC, dI)) (ci := 6) (v := .int 4) (C := RX2) (T := TX2) (N := 2) hx hb hts (by decide +kernel) hown hK hP 0 rfl rfl 1 (by decide) (hts (.fieldLink RX2 15 "Rewriterope$Text" "length" "I") (by decide +kernel)) (fun _ h9 => h9) rfl dX2_add_19 ?_
  refine lv_iload_n hx hb dX2_add_22 rfl (lv_at hl 1 rfl) ?_
  refine lv_i2b (v := i0) hx hb dX2_add_23 (kz_i2b i0_l i0_u) ?_
  refine va_bast (D := (dC, dI)) hx hb hK hP hD hS 1 0 rfl rfl (by unfold vp_in; decide) dX2_add_24 (fun H locs hP hD hS => ?_)
  rw [kz_nar i0_l i0_u] at hP hD
  have hP : va_P (dC, dI) vwCl [(h0, .inr (6, [.ref h1, .int 4])), (h1, .inl (k0, 64, .inl (upd f0 4 i0)))] H := hP
  have hD : va_D A [(h0, .inr (6, [.ref h1, .int 4])), (h1, .inl (k0, 64, .inl (upd f0 4 i0)))] := hD
  obtain ⟨f1, hf1⟩ : ∃ f : Nat → Int32, f = upd f0 4 i0 := ⟨_, rfl⟩
  have f1_t : sb_Fit f1 := by rw [hf1]; exact sb_fitU f0_t (kz_fit4 i0_l i0_u)
  rw [← hf1] at hP hD
  refine lv_aload_n hx hb dX2_add_25 rfl (lv_at hl 0 rfl) ?_
  refine lv_dup hx hb dX2_add_26 rfl ?_
  refine va_get (D := (dC, dI)) (ci := 6) (v := .int 4) (C := RX2) (T := TX2) (N := 2) hx hb hts (by decide +kernel) hown hK hP 0 rfl rfl 1 (by decide) (hts (.fieldLink RX2 15 "Rewriterope$Text" "length" "I") (by decide +kernel)) (fun _ h9 => h9) rfl dX2_add_27 ?_
  refine lv_iconst (v := 1) hx hb dX2_add_30 (by decide) ?_
  refine lv_iadd hx hb dX2_add_31 ?_
  refine lv_topi (fun y2 ey2 => ?_)
  obtain rfl : y2 = 5 := ey2.trans (by decide)
  refine va_put (D := (dC, dI)) (ci := 6) (v := .int 5) (ty := .int) (C := RX2) (T := TX2) (N := 2) hx hb hts (by decide +kernel) tyX2 tyX2_ok nmX2 hown hK hP hD hS 0 rfl rfl 1 (by decide) (hts (.fieldLink RX2 15 "Rewriterope$Text" "length" "I") (by decide +kernel)) (fun _ h9 => h9) rfl (by decide +kernel) rfl rfl (Nat.le_of_ble_eq_true rfl) dX2_add_32 (fun H locs hP hD hS => ?_)
  have hP : va_P (dC, dI) vwCl [(h0, .inr (6, [.ref h1, .int 5])), (h1, .inl (k0, 64, .inl f1))] H := hP
  have hD : va_D A [(h0, .inr (6, [.ref h1, .int 5])), (h1, .inl (k0, 64, .inl f1))] := hD
  exact W.vret hx hb hr (fun t ht hW => ⟨⟨(), rfl, trivial, f1, f1_t, by rw [ht]; exact hP, va_K.moved hW.alike hK, hD⟩, hS.F ht⟩) hS.2.2 dX2_add_35
set_option maxHeartbeats 8000000 in
set_option maxRecDepth 100000 in
theorem kx_X3_type_h44 {l : Launch} {dC : Nat → ClassId} {dI : Nat → Nat → Nat} {h0 h1 h2 h3 h4 h5 h6 h7 h8 h9 h10 h11 z0 z1 z2 z3 : Nat} {k0 k1 k2 k3 k4 k5 : ClassId} {rp l5 R : Int32} {p : Program} {e : Env} {s : State} {m : MethodId} {args : Array Value} {below : List Frame} {meth : Method} {c : Code} {A : Nat → Prop} {H : Heap} {locs : List Loc} {ls : Array Slot} {f0 : Nat → Int32} (f0_t : sb_Fit f0) (hR : kz_ct 4 [l5] = R) (rp_l : (0 : Int) ≤ rp.toInt) (rp_u : rp.toInt ≤ (3 : Int)) (l5_l : (-1 : Int) ≤ l5.toInt) (l5_u : l5.toInt ≤ (3 : Int)) (hx : p.tables.exec = Jvm.exec) (hb : c.code = cX3_type) (hr : meth.sig.returnType = some .int) (hml : c.maxLocals = 8) (hown : s.vm.findClass RX3 = some m.cls) (hts : ∀ w ∈ wsX3_type, w.before args s = true) (hlocks : meth.locks = false) (hA : ∀ q : Nat, s.heap.size ≤ q → A q) (hS : va_S A s.heap H locs) (hK : va_K (dC, dI) vwCl [(k0, .object "Rewriterope$Text"), (k1, .byte), (k2, .byte), (k3, .byte), (k4, .byte), (k5, .byte)] s) (hP : va_P (dC, dI) vwCl [(h0, .inr (7, [.ref h1, .ref z0, .ref z1, .ref h2, .ref z2, .ref z3, .int 0, .int 0, .int 0])), (h1, .inl (k0, 4, .inr (.inr (.inr (.inr (va_up (va_up (va_up (va_up (fun _ => none) 0 (some h4)) 1 (some h6)) 2 (some h8)) 3 (some h10))))))), (h2, .inr (6, [.ref h3, .int 4])), (h3, .inl (k1, 64, .inl f0)), (h4, .inr (6, [.ref h5, .int 0])), (h5, .inl (k2, 64, .inl (fun _ => 0))), (h6, .inr (6, [.ref h7, .int 0])), (h7, .inl (k3, 64, .inl (fun _ => 0))), (h8, .inr (6, [.ref h9, .int 0])), (h9, .inl (k4, 64, .inl (fun _ => 0))), (h10, .inr (6, [.ref h11, .int 0])), (h11, .inl (k5, 64, .inl (fun _ => 0)))] H) (hD : va_D A [(h0, .inr (7, [.ref h1, .ref z0, .ref z1, .ref h2, .ref z2, .ref z3, .int 0, .int 0, .int 0])), (h1, .inl (k0, 4, .inr (.inr (.inr (.inr (va_up (va_up (va_up (va_up (fun _ => none) 0 (some h4)) 1 (some h6)) 2 (some h8)) 3 (some h10))))))), (h2, .inr (6, [.ref h3, .int 4])), (h3, .inl (k1, 64, .inl f0)), (h4, .inr (6, [.ref h5, .int 0])), (h5, .inl (k2, 64, .inl (fun _ => 0))), (h6, .inr (6, [.ref h7, .int 0])), (h7, .inl (k3, 64, .inl (fun _ => 0))), (h8, .inr (6, [.ref h9, .int 0])), (h9, .inl (k4, 64, .inl (fun _ => 0))), (h10, .inr (6, [.ref h11, .int 0])), (h11, .inl (k5, 64, .inl (fun _ => 0)))]) (hl : lv_has ls 8 [(0, .ref h0), (1, .int rp), (6, .int l5)]) : W p l e (headSpec wsX3_type ({ frames := 2, cells := 0, slots := 0, locals := 84 })).room s m args below meth c H locs 0 0 (MQ below (va_Qi (fun (r : Int32) (_ : Unit) => r = R) (fun (_ : Unit) (t : State) => va_P (dC, dI) vwCl [(h0, .inr (7, [.ref h1, .ref z0, .ref z1, .ref h2, .ref z2, .ref z3, .int 0, .int 0, .int 0]))] t.heap ∧ va_K (dC, dI) vwCl [(k0, .object "Rewriterope$Text"), (k1, .byte), (k2, .byte), (k3, .byte), (k4, .byte), (k5, .byte)] t ∧ va_D A [(h0, .inr (7, [.ref h1, .ref z0, .ref z1, .ref h2, .ref z2, .ref z3, .int 0, .int 0, .int 0]))]) A) args s 0 0 A) (F0 m 68 ls []) := by
  rcases Int.lt_or_le l5.toInt 0 with r9 | r9
  · obtain rfl : l5 = -1 := Int32.toInt_inj.mp (by rw [show (-1 : Int32).toInt = -1 from by decide]; omega)
    have hR : kz_ct 4 [] = R := kz_ct_n.symm.trans hR
    refine lv_aload_n hx hb dX3_type_68 rfl (lv_at hl 0 rfl) ?_
    refine va_get (D := (dC, dI)) (ci := 7) (v := .ref h2) (C := RX3) (T := TX3) (N := 9) hx hb hts (by decide +kernel) hown hK hP 0 rfl rfl 3 (by decide) (hts (.fieldLink RX3 32 "Rewriterope" "work" "LRewriterope$Text;") (by decide +kernel)) (fun _ h9 => h9) rfl dX3_type_69 ?_
    refine lv_iload hx hb dX3_type_72 (lv_at hl 2 rfl) ?_
    have hPc := hP.sub (ws' := [(h2, .inr (6, [.ref h3, .int 4]))]) [2] rfl
    have hDc := hD.sub (ws' := [(h2, .inr (6, [.ref h3, .int 4]))]) [2] (by decide) rfl
    have hKc := hK.sub (tys' := []) [] rfl
    have hFc := va_free (wc := [(h2, .inr (6, [.ref h3, .int 4]))]) hD hS hA [2] rfl
    refine va_callv (va_runV (As := [.int (-1)]) (rest := []) ⟨hx, hb, hml, hown, hts⟩ (kx_X2_add_13 l dC dI h2 h3 H.size) (cwV 1 hts gX3_type_X2_add rfl rfl rfl (by decide +kernel) ⟨Nat.le_of_ble_eq_true rfl, Nat.le_of_ble_eq_true rfl⟩) ⟨fun a U g mk q => by obtain ⟨q0, q1, qP, qK, qD⟩ := q; exact ⟨q0, q1, qP, va_K.moved (u := U) (U := U.calling g mk a) (Vm.Alike.refl U.vm) qK, qD⟩, va_recv hKc hPc (ci := 6) (q0 := 0) rfl rfl, fun U hU hW => ⟨rfl, by rw [hU], by rw [hU]; exact hPc, va_K.moved hW.alike hKc, hDc.weaken (fun _ _ _ _ => trivial)⟩⟩ rfl rfl hl.1 rfl (lv_room (Nat.le_of_ble_eq_true rfl)) dX3_type_74 ⟨Nat.le_of_ble_eq_true rfl, Nat.le_of_ble_eq_true rfl⟩) hS (fun q _ h => hFc q h) hFc (fun u t H1 locs ht hvm hw hB hz1 hk1 hS => ?_)
    obtain ⟨hP1, hK1, hD1⟩ := hB
    rw [ht] at hP1
    have hK1 := va_K.moved hvm.symm hK1
    obtain ⟨hP, hD⟩ := va_join (wr := [(h0, .inr (7, [.ref h1, .ref z0, .ref z1, .ref h2, .ref z2, .ref z3, .int 0, .int 0, .int 0])), (h1, .inl (k0, 4, .inr (.inr (.inr (.inr (va_up (va_up (va_up (va_up (fun _ => none) 0 (some h4)) 1 (some h6)) 2 (some h8)) 3 (some h10))))))), (h3, .inl (k1, 64, .inl f0)), (h4, .inr (6, [.ref h5, .int 0])), (h5, .inl (k2, 64, .inl (fun _ => 0))), (h6, .inr (6, [.ref h7, .int 0])), (h7, .inl (k3, 64, .inl (fun _ => 0))), (h8, .inr (6, [.ref h9, .int 0])), (h9, .inl (k4, 64, .inl (fun _ => 0))), (h10, .inr (6, [.ref h11, .int 0])), (h11, .inl (k5, 64, .inl (fun _ => 0)))]) (w1 := [(h2, .inr (6, [.ref h3, .int 4]))]) hP hD [2] [0, 1, 3, 4, 5, 6, 7, 8, 9, 10, 11] rfl rfl (by decide) (by decide) hk1 hFc hP1 hD1
    generalize H1 = H at hP hS ⊢
    have hP : va_P (dC, dI) vwCl [(h0, .inr (7, [.ref h1, .ref z0, .ref z1, .ref h2, .ref z2, .ref z3, .int 0, .int 0, .int 0])), (h1, .inl (k0, 4, .inr (.inr (.inr (.inr (va_up (va_up (va_up (va_up (fun _ => none) 0 (some h4)) 1 (some h6)) 2 (some h8)) 3 (some h10))))))), (h3, .inl (k1, 64, .inl f0)), (h4, .inr (6, [.ref h5, .int 0])), (h5, .inl (k2, 64, .inl (fun _ => 0))), (h6, .inr (6, [.ref h7, .int 0])), (h7, .inl (k3, 64, .inl (fun _ => 0))), (h8, .inr (6, [.ref h9, .int 0])), (h9, .inl (k4, 64, .inl (fun _ => 0))), (h10, .inr (6, [.ref h11, .int 0])), (h11, .inl (k5, 64, .inl (fun _ => 0))), (h2, .inr (6, [.ref h3, .int 4]))] H := hP
    have hD : va_D A [(h0, .inr (7, [.ref h1, .ref z0, .ref z1, .ref h2, .ref z2, .ref z3, .int 0, .int 0, .int 0])), (h1, .inl (k0, 4, .inr (.inr (.inr (.inr (va_up (va_up (va_up (va_up (fun _ => none) 0 (some h4)) 1 (some h6)) 2 (some h8)) 3 (some h10))))))), (h3, .inl (k1, 64, .inl f0)), (h4, .inr (6, [.ref h5, .int 0])), (h5, .inl (k2, 64, .inl (fun _ => 0))), (h6, .inr (6, [.ref h7, .int 0])), (h7, .inl (k3, 64, .inl (fun _ => 0))), (h8, .inr (6, [.ref h9, .int 0])), (h9, .inl (k4, 64, .inl (fun _ => 0))), (h10, .inr (6, [.ref h11, .int 0])), (h11, .inl (k5, 64, .inl (fun _ => 0))), (h2, .inr (6, [.ref h3, .int 4]))] := hD
    have hP := hP.sub (ws' := [(h0, .inr (7, [.ref h1, .ref z0, .ref z1, .ref h2, .ref z2, .ref z3, .int 0, .int 0, .int 0])), (h1, .inl (k0, 4, .inr (.inr (.inr (.inr (va_up (va_up (va_up (va_up (fun _ => none) 0 (some h4)) 1 (some h6)) 2 (some h8)) 3 (some h10))))))), (h2, .inr (6, [.ref h3, .int 4])), (h3, .inl (k1, 64, .inl f0)), (h4, .inr (6, [.ref h5, .int 0])), (h5, .inl (k2, 64, .inl (fun _ => 0))), (h6, .inr (6, [.ref h7, .int 0])), (h7, .inl (k3, 64, .inl (fun _ => 0))), (h8, .inr (6, [.ref h9, .int 0])), (h9, .inl (k4, 64, .inl (fun _ => 0))), (h10, .inr (6, [.ref h11, .int 0])), (h11, .inl (k5, 64, .inl (fun _ => 0)))]) [0, 1, 11, 2, 3, 4, 5, 6, 7, 8, 9, 10] rfl
    have hD := hD.sub (ws' := [(h0, .inr (7, [.ref h1, .ref z0, .ref z1, .ref h2, .ref z2, .ref z3, .int 0, .int 0, .int 0])), (h1, .inl (k0, 4, .inr (.inr (.inr (.inr (va_up (va_up (va_up (va_up (fun _ => none) 0 (some h4)) 1 (some h6)) 2 (some h8)) 3 (some h10))))))), (h2, .inr (6, [.ref h3, .int 4])), (h3, .inl (k1, 64, .inl f0)), (h4, .inr (6, [.ref h5, .int 0])), (h5, .inl (k2, 64, .inl (fun _ => 0))), (h6, .inr (6, [.ref h7, .int 0])), (h7, .inl (k3, 64, .inl (fun _ => 0))), (h8, .inr (6, [.ref h9, .int 0])), (h9, .inl (k4, 64, .inl (fun _ => 0))), (h10, .inr (6, [.ref h11, .int 0])), (h11, .inl (k5, 64, .inl (fun _ => 0)))]) [0, 1, 11, 2, 3, 4, 5, 6, 7, 8, 9, 10] (by decide) rfl
    have hK := hK.sub (tys' := [(k0, .object "Rewriterope$Text"), (k1, .byte), (k2, .byte), (k3, .byte), (k4, .byte), (k5, .byte)]) [0, 1, 2, 3, 4, 5] rfl
    have hl := lv_sub hl [0, 1] (show lv_pick [(0, .ref h0), (1, .int rp), (6, .int (-1))] [0, 1] = [(0, .ref h0), (1, .int rp)] from rfl)
    exact kx_X3_type_h54 f0_t hR rp_l rp_u hx hb hr hml hown hts hlocks hA hS hK hP hD hl
  · have l5_l : (0 : Int) ≤ l5.toInt := r9
    have hR : kz_ct 5 [] = R := (kz_ct_g l5_l).symm.trans hR
    refine lv_aload_n hx hb dX3_type_68 rfl (lv_at hl 0 rfl) ?_
    refine va_get (D := (dC, dI)) (ci := 7) (v := .ref h2) (C := RX3) (T := TX3) (N := 9) hx hb hts (by decide +kernel) hown hK hP 0 rfl rfl 3 (by decide) (hts (.fieldLink RX3 32 "Rewriterope" "work" "LRewriterope$Text;") (by decide +kernel)) (fun _ h9 => h9) rfl dX3_type_69 ?_
    refine lv_iload hx hb dX3_type_72 (lv_at hl 2 rfl) ?_
    have hPc := hP.sub (ws' := [(h2, .inr (6, [.ref h3, .int 4])), (h3, .inl (k1, 64, .inl f0))]) [2, 3] rfl
    have hDc := hD.sub (ws' := [(h2, .inr (6, [.ref h3, .int 4])), (h3, .inl (k1, 64, .inl f0))]) [2, 3] (by decide) rfl
    have hKc := hK.sub (tys' := [(k1, .byte)]) [1] rfl
    have hFc := va_free (wc := [(h2, .inr (6, [.ref h3, .int 4])), (h3, .inl (k1, 64, .inl f0))]) hD hS hA [2, 3] rfl
    refine va_callv (va_runV (As := [.int l5]) (rest := []) ⟨hx, hb, hml, hown, hts⟩ (kx_X2_add_14 l dC dI h2 h3 k1 H.size f0 f0_t l5 l5_l l5_u) (cwV 1 hts gX3_type_X2_add rfl rfl rfl (by decide +kernel) ⟨Nat.le_of_ble_eq_true rfl, Nat.le_of_ble_eq_true rfl⟩) ⟨fun a U g mk q => by obtain ⟨q0, q1, qP, qK, qD⟩ := q; exact ⟨q0, q1, qP, va_K.moved (u := U) (U := U.calling g mk a) (Vm.Alike.refl U.vm) qK, qD⟩, va_recv hKc hPc (ci := 6) (q0 := 0) rfl rfl, fun U hU hW => ⟨rfl, by rw [hU], by rw [hU]; exact hPc, va_K.moved hW.alike hKc, hDc.weaken (fun _ _ _ _ => trivial)⟩⟩ rfl rfl hl.1 rfl (lv_room (Nat.le_of_ble_eq_true rfl)) dX3_type_74 ⟨Nat.le_of_ble_eq_true rfl, Nat.le_of_ble_eq_true rfl⟩) hS (fun q _ h => hFc q h) hFc (fun u t H1 locs ht hvm hw hB hz1 hk1 hS => ?_)
    obtain ⟨f101, f101_t, hP1, hK1, hD1⟩ := hB
    rw [ht] at hP1
    have hK1 := va_K.moved hvm.symm hK1
    obtain ⟨hP, hD⟩ := va_join (wr := [(h0, .inr (7, [.ref h1, .ref z0, .ref z1, .ref h2, .ref z2, .ref z3, .int 0, .int 0, .int 0])), (h1, .inl (k0, 4, .inr (.inr (.inr (.inr (va_up (va_up (va_up (va_up (fun _ => none) 0 (some h4)) 1 (some h6)) 2 (some h8)) 3 (some h10))))))), (h4, .inr (6, [.ref h5, .int 0])), (h5, .inl (k2, 64, .inl (fun _ => 0))), (h6, .inr (6, [.ref h7, .int 0])), (h7, .inl (k3, 64, .inl (fun _ => 0))), (h8, .inr (6, [.ref h9, .int 0])), (h9, .inl (k4, 64, .inl (fun _ => 0))), (h10, .inr (6, [.ref h11, .int 0])), (h11, .inl (k5, 64, .inl (fun _ => 0)))]) (w1 := [(h2, .inr (6, [.ref h3, .int 5])), (h3, .inl (k1, 64, .inl f101))]) hP hD [2, 3] [0, 1, 4, 5, 6, 7, 8, 9, 10, 11] rfl rfl (by decide) (by decide) hk1 hFc hP1 hD1
    generalize H1 = H at hP hS ⊢
    have hP : va_P (dC, dI) vwCl [(h0, .inr (7, [.ref h1, .ref z0, .ref z1, .ref h2, .ref z2, .ref z3, .int 0, .int 0, .int 0])), (h1, .inl (k0, 4, .inr (.inr (.inr (.inr (va_up (va_up (va_up (va_up (fun _ => none) 0 (some h4)) 1 (some h6)) 2 (some h8)) 3 (some h10))))))), (h4, .inr (6, [.ref h5, .int 0])), (h5, .inl (k2, 64, .inl (fun _ => 0))), (h6, .inr (6, [.ref h7, .int 0])), (h7, .inl (k3, 64, .inl (fun _ => 0))), (h8, .inr (6, [.ref h9, .int 0])), (h9, .inl (k4, 64, .inl (fun _ => 0))), (h10, .inr (6, [.ref h11, .int 0])), (h11, .inl (k5, 64, .inl (fun _ => 0))), (h2, .inr (6, [.ref h3, .int 5])), (h3, .inl (k1, 64, .inl f101))] H := hP
    have hD : va_D A [(h0, .inr (7, [.ref h1, .ref z0, .ref z1, .ref h2, .ref z2, .ref z3, .int 0, .int 0, .int 0])), (h1, .inl (k0, 4, .inr (.inr (.inr (.inr (va_up (va_up (va_up (va_up (fun _ => none) 0 (some h4)) 1 (some h6)) 2 (some h8)) 3 (some h10))))))), (h4, .inr (6, [.ref h5, .int 0])), (h5, .inl (k2, 64, .inl (fun _ => 0))), (h6, .inr (6, [.ref h7, .int 0])), (h7, .inl (k3, 64, .inl (fun _ => 0))), (h8, .inr (6, [.ref h9, .int 0])), (h9, .inl (k4, 64, .inl (fun _ => 0))), (h10, .inr (6, [.ref h11, .int 0])), (h11, .inl (k5, 64, .inl (fun _ => 0))), (h2, .inr (6, [.ref h3, .int 5])), (h3, .inl (k1, 64, .inl f101))] := hD
    have hP := hP.sub (ws' := [(h0, .inr (7, [.ref h1, .ref z0, .ref z1, .ref h2, .ref z2, .ref z3, .int 0, .int 0, .int 0])), (h1, .inl (k0, 4, .inr (.inr (.inr (.inr (va_up (va_up (va_up (va_up (fun _ => none) 0 (some h4)) 1 (some h6)) 2 (some h8)) 3 (some h10))))))), (h2, .inr (6, [.ref h3, .int 5])), (h3, .inl (k1, 64, .inl f101)), (h4, .inr (6, [.ref h5, .int 0])), (h5, .inl (k2, 64, .inl (fun _ => 0))), (h6, .inr (6, [.ref h7, .int 0])), (h7, .inl (k3, 64, .inl (fun _ => 0))), (h8, .inr (6, [.ref h9, .int 0])), (h9, .inl (k4, 64, .inl (fun _ => 0))), (h10, .inr (6, [.ref h11, .int 0])), (h11, .inl (k5, 64, .inl (fun _ => 0)))]) [0, 1, 10, 11, 2, 3, 4, 5, 6, 7, 8, 9] rfl
    have hD := hD.sub (ws' := [(h0, .inr (7, [.ref h1, .ref z0, .ref z1, .ref h2, .ref z2, .ref z3, .int 0, .int 0, .int 0])), (h1, .inl (k0, 4, .inr (.inr (.inr (.inr (va_up (va_up (va_up (va_up (fun _ => none) 0 (some h4)) 1 (some h6)) 2 (some h8)) 3 (some h10))))))), (h2, .inr (6, [.ref h3, .int 5])), (h3, .inl (k1, 64, .inl f101)), (h4, .inr (6, [.ref h5, .int 0])), (h5, .inl (k2, 64, .inl (fun _ => 0))), (h6, .inr (6, [.ref h7, .int 0])), (h7, .inl (k3, 64, .inl (fun _ => 0))), (h8, .inr (6, [.ref h9, .int 0])), (h9, .inl (k4, 64, .inl (fun _ => 0))), (h10, .inr (6, [.ref h11, .int 0])), (h11, .inl (k5, 64, .inl (fun _ => 0)))]) [0, 1, 10, 11, 2, 3, 4, 5, 6, 7, 8, 9] (by decide) rfl
    have hK := hK.sub (tys' := [(k0, .object "Rewriterope$Text"), (k1, .byte), (k2, .byte), (k3, .byte), (k4, .byte), (k5, .byte)]) [0, 1, 2, 3, 4, 5] rfl
    have hl := lv_sub hl [0, 1] (show lv_pick [(0, .ref h0), (1, .int rp), (6, .int l5)] [0, 1] = [(0, .ref h0), (1, .int rp)] from rfl)
    exact kx_X3_type_h55 f101_t hR rp_l rp_u hx hb hr hml hown hts hlocks hA hS hK hP hD hl
set_option maxHeartbeats 8000000 in
set_option maxRecDepth 100000 in
theorem kx_X3_type_h30 {l : Launch} {dC : Nat → ClassId} {dI : Nat → Nat → Nat} {h0 h1 h2 h3 h4 h5 h6 h7 h8 h9 h10 h11 z0 z1 z2 z3 : Nat} {k0 k1 k2 k3 k4 k5 : ClassId} {rp l4 l5 R : Int32} {p : Program} {e : Env} {s : State} {m : MethodId} {args : Array Value} {below : List Frame} {meth : Method} {c : Code} {A : Nat → Prop} {H : Heap} {locs : List Loc} {ls : Array Slot} (hR : kz_ct 0 [l4, l5] = R) (rp_l : (0 : Int) ≤ rp.toInt) (rp_u : rp.toInt ≤ (3 : Int)) (l4_l : (-1 : Int) ≤ l4.toInt) (l4_u : l4.toInt ≤ (3 : Int)) (l5_l : (-1 : Int) ≤ l5.toInt) (l5_u : l5.toInt ≤ (3 : Int)) (hx : p.tables.exec = Jvm.exec) (hb : c.code = cX3_type) (hr : meth.sig.returnType = some .int) (hml : c.maxLocals = 8) (hown : s.vm.findClass RX3 = some m.cls) (hts : ∀ w ∈ wsX3_type, w.before args s = true) (hlocks : meth.locks = false) (hA : ∀ q : Nat, s.heap.size ≤ q → A q) (hS : va_S A s.heap H locs) (hK : va_K (dC, dI) vwCl [(k0, .object "Rewriterope$Text"), (k1, .byte), (k2, .byte), (k3, .byte), (k4, .byte), (k5, .byte)] s) (hP : va_P (dC, dI) vwCl [(h0, .inr (7, [.ref h1, .ref z0, .ref z1, .ref h2, .ref z2, .ref z3, .int 0, .int 0, .int 0])), (h1, .inl (k0, 4, .inr (.inr (.inr (.inr (va_up (va_up (va_up (va_up (fun _ => none) 0 (some h4)) 1 (some h6)) 2 (some h8)) 3 (some h10))))))), (h2, .inr (6, [.ref h3, .int 0])), (h3, .inl (k1, 64, .inl (fun _ => 0))), (h4, .inr (6, [.ref h5, .int 0])), (h5, .inl (k2, 64, .inl (fun _ => 0))), (h6, .inr (6, [.ref h7, .int 0])), (h7, .inl (k3, 64, .inl (fun _ => 0))), (h8, .inr (6, [.ref h9, .int 0])), (h9, .inl (k4, 64, .inl (fun _ => 0))), (h10, .inr (6, [.ref h11, .int 0])), (h11, .inl (k5, 64, .inl (fun _ => 0)))] H) (hD : va_D A [(h0, .inr (7, [.ref h1, .ref z0, .ref z1, .ref h2, .ref z2, .ref z3, .int 0, .int 0, .int 0])), (h1, .inl (k0, 4, .inr (.inr (.inr (.inr (va_up (va_up (va_up (va_up (fun _ => none) 0 (some h4)) 1 (some h6)) 2 (some h8)) 3 (some h10))))))), (h2, .inr (6, [.ref h3, .int 0])), (h3, .inl (k1, 64, .inl (fun _ => 0))), (h4, .inr (6, [.ref h5, .int 0])), (h5, .inl (k2, 64, .inl (fun _ => 0))), (h6, .inr (6, [.ref h7, .int 0])), (h7, .inl (k3, 64, .inl (fun _ => 0))), (h8, .inr (6, [.ref h9, .int 0])), (h9, .inl (k4, 64, .inl (fun _ => 0))), (h10, .inr (6, [.ref h11, .int 0])), (h11, .inl (k5, 64, .inl (fun _ => 0)))]) (hl : lv_has ls 8 [(0, .ref h0), (1, .int rp), (5, .int l4), (6, .int l5)]) : W p l e (headSpec wsX3_type ({ frames := 2, cells := 0, slots := 0, locals := 84 })).room s m args below meth c H locs 0 0 (MQ below (va_Qi (fun (r : Int32) (_ : Unit) => r = R) (fun (_ : Unit) (t : State) => va_P (dC, dI) vwCl [(h0, .inr (7, [.ref h1, .ref z0, .ref z1, .ref h2, .ref z2, .ref z3, .int 0, .int 0, .int 0]))] t.heap ∧ va_K (dC, dI) vwCl [(k0, .object "Rewriterope$Text"), (k1, .byte), (k2, .byte), (k3, .byte), (k4, .byte), (k5, .byte)] t ∧ va_D A [(h0, .inr (7, [.ref h1, .ref z0, .ref z1, .ref h2, .ref z2, .ref z3, .int 0, .int 0, .int 0]))]) A) args s 0 0 A) (F0 m 59 ls []) := by
  rcases Int.lt_or_le l4.toInt 0 with r9 | r9
  · obtain rfl : l4 = -1 := Int32.toInt_inj.mp (by rw [show (-1 : Int32).toInt = -1 from by decide]; omega)
    have hR : kz_ct 0 [l5] = R := kz_ct_n.symm.trans hR
    refine lv_aload_n hx hb dX3_type_59 rfl (lv_at hl 0 rfl) ?_
    refine va_get (D := (dC, dI)) (ci := 7) (v := .ref h2) (C := RX3) (T := TX3) (N := 9) hx hb hts (by decide +kernel) hown hK hP 0 rfl rfl 3 (by decide) (hts (.fieldLink RX3 32 "Rewriterope" "work" "LRewriterope$Text;") (by decide +kernel)) (fun _ h9 => h9) rfl dX3_type_60 ?_
    refine lv_iload hx hb dX3_type_63 (lv_at hl 2 rfl) ?_
    have hPc := hP.sub (ws' := [(h2, .inr (6, [.ref h3, .int 0]))]) [2] rfl
    have hDc := hD.sub (ws' := [(h2, .inr (6, [.ref h3, .int 0]))]) [2] (by decide) rfl
    have hKc := hK.sub (tys' := []) [] rfl
    have hFc := va_free (wc := [(h2, .inr (6, [.ref h3, .int 0]))]) hD hS hA [2] rfl
    refine va_callv (va_runV (As := [.int (-1)]) (rest := []) ⟨hx, hb, hml, hown, hts⟩ (kx_X2_add_5 l dC dI h2 h3 H.size) (cwV 1 hts gX3_type_X2_add rfl rfl rfl (by decide +kernel) ⟨Nat.le_of_ble_eq_true rfl, Nat.le_of_ble_eq_true rfl⟩) ⟨fun a U g mk q => by obtain ⟨q0, q1, qP, qK, qD⟩ := q; exact ⟨q0, q1, qP, va_K.moved (u := U) (U := U.calling g mk a) (Vm.Alike.refl U.vm) qK, qD⟩, va_recv hKc hPc (ci := 6) (q0 := 0) rfl rfl, fun U hU hW => ⟨rfl, by rw [hU], by rw [hU]; exact hPc, va_K.moved hW.alike hKc, hDc.weaken (fun _ _ _ _ => trivial)⟩⟩ rfl rfl hl.1 rfl (lv_room (Nat.le_of_ble_eq_true rfl)) dX3_type_65 ⟨Nat.le_of_ble_eq_true rfl, Nat.le_of_ble_eq_true rfl⟩) hS (fun q _ h => hFc q h) hFc (fun u t H1 locs ht hvm hw hB hz1 hk1 hS => ?_)
    obtain ⟨hP1, hK1, hD1⟩ := hB
    rw [ht] at hP1
    have hK1 := va_K.moved hvm.symm hK1
    obtain ⟨hP, hD⟩ := va_join (wr := [(h0, .inr (7, [.ref h1, .ref z0, .ref z1, .ref h2, .ref z2, .ref z3, .int 0, .int 0, .int 0])), (h1, .inl (k0, 4, .inr (.inr (.inr (.inr (va_up (va_up (va_up (va_up (fun _ => none) 0 (some h4)) 1 (some h6)) 2 (some h8)) 3 (some h10))))))), (h3, .inl (k1, 64, .inl (fun _ => 0))), (h4, .inr (6, [.ref h5, .int 0])), (h5, .inl (k2, 64, .inl (fun _ => 0))), (h6, .inr (6, [.ref h7, .int 0])), (h7, .inl (k3, 64, .inl (fun _ => 0))), (h8, .inr (6, [.ref h9, .int 0])), (h9, .inl (k4, 64, .inl (fun _ => 0))), (h10, .inr (6, [.ref h11, .int 0])), (h11, .inl (k5, 64, .inl (fun _ => 0)))]) (w1 := [(h2, .inr (6, [.ref h3, .int 0]))]) hP hD [2] [0, 1, 3, 4, 5, 6, 7, 8, 9, 10, 11] rfl rfl (by decide) (by decide) hk1 hFc hP1 hD1
    generalize H1 = H at hP hS ⊢
    have hP : va_P (dC, dI) vwCl [(h0, .inr (7, [.ref h1, .ref z0, .ref z1, .ref h2, .ref z2, .ref z3, .int 0, .int 0, .int 0])), (h1, .inl (k0, 4, .inr (.inr (.inr (.inr (va_up (va_up (va_up (va_up (fun _ => none) 0 (some h4)) 1 (some h6)) 2 (some h8)) 3 (some h10))))))), (h3, .inl (k1, 64, .inl (fun _ => 0))), (h4, .inr (6, [.ref h5, .int 0])), (h5, .inl (k2, 64, .inl (fun _ => 0))), (h6, .inr (6, [.ref h7, .int 0])), (h7, .inl (k3, 64, .inl (fun _ => 0))), (h8, .inr (6, [.ref h9, .int 0])), (h9, .inl (k4, 64, .inl (fun _ => 0))), (h10, .inr (6, [.ref h11, .int 0])), (h11, .inl (k5, 64, .inl (fun _ => 0))), (h2, .inr (6, [.ref h3, .int 0]))] H := hP
    have hD : va_D A [(h0, .inr (7, [.ref h1, .ref z0, .ref z1, .ref h2, .ref z2, .ref z3, .int 0, .int 0, .int 0])), (h1, .inl (k0, 4, .inr (.inr (.inr (.inr (va_up (va_up (va_up (va_up (fun _ => none) 0 (some h4)) 1 (some h6)) 2 (some h8)) 3 (some h10))))))), (h3, .inl (k1, 64, .inl (fun _ => 0))), (h4, .inr (6, [.ref h5, .int 0])), (h5, .inl (k2, 64, .inl (fun _ => 0))), (h6, .inr (6, [.ref h7, .int 0])), (h7, .inl (k3, 64, .inl (fun _ => 0))), (h8, .inr (6, [.ref h9, .int 0])), (h9, .inl (k4, 64, .inl (fun _ => 0))), (h10, .inr (6, [.ref h11, .int 0])), (h11, .inl (k5, 64, .inl (fun _ => 0))), (h2, .inr (6, [.ref h3, .int 0]))] := hD
    have hP := hP.sub (ws' := [(h0, .inr (7, [.ref h1, .ref z0, .ref z1, .ref h2, .ref z2, .ref z3, .int 0, .int 0, .int 0])), (h1, .inl (k0, 4, .inr (.inr (.inr (.inr (va_up (va_up (va_up (va_up (fun _ => none) 0 (some h4)) 1 (some h6)) 2 (some h8)) 3 (some h10))))))), (h2, .inr (6, [.ref h3, .int 0])), (h3, .inl (k1, 64, .inl (fun _ => 0))), (h4, .inr (6, [.ref h5, .int 0])), (h5, .inl (k2, 64, .inl (fun _ => 0))), (h6, .inr (6, [.ref h7, .int 0])), (h7, .inl (k3, 64, .inl (fun _ => 0))), (h8, .inr (6, [.ref h9, .int 0])), (h9, .inl (k4, 64, .inl (fun _ => 0))), (h10, .inr (6, [.ref h11, .int 0])), (h11, .inl (k5, 64, .inl (fun _ => 0)))]) [0, 1, 11, 2, 3, 4, 5, 6, 7, 8, 9, 10] rfl
    have hD := hD.sub (ws' := [(h0, .inr (7, [.ref h1, .ref z0, .ref z1, .ref h2, .ref z2, .ref z3, .int 0, .int 0, .int 0])), (h1, .inl (k0, 4, .inr (.inr (.inr (.inr (va_up (va_up (va_up (va_up (fun _ => none) 0 (some h4)) 1 (some h6)) 2 (some h8)) 3 (some h10))))))), (h2, .inr (6, [.ref h3, .int 0])), (h3, .inl (k1, 64, .inl (fun _ => 0))), (h4, .inr (6, [.ref h5, .int 0])), (h5, .inl (k2, 64, .inl (fun _ => 0))), (h6, .inr (6, [.ref h7, .int 0])), (h7, .inl (k3, 64, .inl (fun _ => 0))), (h8, .inr (6, [.ref h9, .int 0])), (h9, .inl (k4, 64, .inl (fun _ => 0))), (h10, .inr (6, [.ref h11, .int 0])), (h11, .inl (k5, 64, .inl (fun _ => 0)))]) [0, 1, 11, 2, 3, 4, 5, 6, 7, 8, 9, 10] (by decide) rfl
    have hK := hK.sub (tys' := [(k0, .object "Rewriterope$Text"), (k1, .byte), (k2, .byte), (k3, .byte), (k4, .byte), (k5, .byte)]) [0, 1, 2, 3, 4, 5] rfl
    have hl := lv_sub hl [0, 1, 3] (show lv_pick [(0, .ref h0), (1, .int rp), (5, .int (-1)), (6, .int l5)] [0, 1, 3] = [(0, .ref h0), (1, .int rp), (6, .int l5)] from rfl)
    exact kx_X3_type_h40 hR rp_l rp_u l5_l l5_u hx hb hr hml hown hts hlocks hA hS hK hP hD hl
  · have l4_l : (0 : Int) ≤ l4.toInt := r9
    have hR : kz_ct 1 [l5] = R := (kz_ct_g l4_l).symm.trans hR
    refine lv_aload_n hx hb dX3_type_59 rfl (lv_at hl 0 rfl) ?_
    refine va_get (D := (dC, dI)) (ci := 7) (v := .ref h2) (C := RX3) (T := TX3) (N := 9) hx hb hts (by decide +kernel) hown hK hP 0 rfl rfl 3 (by decide) (hts (.fieldLink RX3 32 "Rewriterope" "work" "LRewriterope$Text;") (by decide +kernel)) (fun _ h9 => h9) rfl dX3_type_60 ?_
    refine lv_iload hx hb dX3_type_63 (lv_at hl 2 rfl) ?_
    have hPc := hP.sub (ws' := [(h2, .inr (6, [.ref h3, .int 0])), (h3, .inl (k1, 64, .inl (fun _ => 0)))]) [2, 3] rfl
    have hDc := hD.sub (ws' := [(h2, .inr (6, [.ref h3, .int 0])), (h3, .inl (k1, 64, .inl (fun _ => 0)))]) [2, 3] (by decide) rfl
    have hKc := hK.sub (tys' := [(k1, .byte)]) [1] rfl
    have hFc := va_free (wc := [(h2, .inr (6, [.ref h3, .int 0])), (h3, .inl (k1, 64, .inl (fun _ => 0)))]) hD hS hA [2, 3] rfl
    refine va_callv (va_runV (As := [.int l4]) (rest := []) ⟨hx, hb, hml, hown, hts⟩ (kx_X2_add_6 l dC dI h2 h3 k1 H.size l4 l4_l l4_u) (cwV 1 hts gX3_type_X2_add rfl rfl rfl (by decide +kernel) ⟨Nat.le_of_ble_eq_true rfl, Nat.le_of_ble_eq_true rfl⟩) ⟨fun a U g mk q => by obtain ⟨q0, q1, qP, qK, qD⟩ := q; exact ⟨q0, q1, qP, va_K.moved (u := U) (U := U.calling g mk a) (Vm.Alike.refl U.vm) qK, qD⟩, va_recv hKc hPc (ci := 6) (q0 := 0) rfl rfl, fun U hU hW => ⟨rfl, by rw [hU], by rw [hU]; exact hPc, va_K.moved hW.alike hKc, hDc.weaken (fun _ _ _ _ => trivial)⟩⟩ rfl rfl hl.1 rfl (lv_room (Nat.le_of_ble_eq_true rfl)) dX3_type_65 ⟨Nat.le_of_ble_eq_true rfl, Nat.le_of_ble_eq_true rfl⟩) hS (fun q _ h => hFc q h) hFc (fun u t H1 locs ht hvm hw hB hz1 hk1 hS => ?_)
    obtain ⟨f101, f101_t, hP1, hK1, hD1⟩ := hB
    rw [ht] at hP1
    have hK1 := va_K.moved hvm.symm hK1
    obtain ⟨hP, hD⟩ := va_join (wr := [(h0, .inr (7, [.ref h1, .ref z0, .ref z1, .ref h2, .ref z2, .ref z3, .int 0, .int 0, .int 0])), (h1, .inl (k0, 4, .inr (.inr (.inr (.inr (va_up (va_up (va_up (va_up (fun _ => none) 0 (some h4)) 1 (some h6)) 2 (some h8)) 3 (some h10))))))), (h4, .inr (6, [.ref h5, .int 0])), (h5, .inl (k2, 64, .inl (fun _ => 0))), (h6, .inr (6, [.ref h7, .int 0])), (h7, .inl (k3, 64, .inl (fun _ => 0))), (h8, .inr (6, [.ref h9, .int 0])), (h9, .inl (k4, 64, .inl (fun _ => 0))), (h10, .inr (6, [.ref h11, .int 0])), (h11, .inl (k5, 64, .inl (fun _ => 0)))]) (w1 := [(h2, .inr (6, [.ref h3, .int 1])), (h3, .inl (k1, 64, .inl f101))]) hP hD [2, 3] [0, 1, 4, 5, 6, 7, 8, 9, 10, 11] rfl rfl (by decide) (by decide) hk1 hFc hP1 hD1
    generalize H1 = H at hP hS ⊢
    have hP : va_P (dC, dI) vwCl [(h0, .inr (7, [.ref h1, .ref z0, .ref z1, .ref h2, .ref z2, .ref z3, .int 0, .int 0, .int 0])), (h1, .inl (k0, 4, .inr (.inr (.inr (.inr (va_up (va_up (va_up (va_up (fun _ => none) 0 (some h4)) 1 (some h6)) 2 (some h8)) 3 (some h10))))))), (h4, .inr (6, [.ref h5, .int 0])), (h5, .inl (k2, 64, .inl (fun _ => 0))), (h6, .inr (6, [.ref h7, .int 0])), (h7, .inl (k3, 64, .inl (fun _ => 0))), (h8, .inr (6, [.ref h9, .int 0])), (h9, .inl (k4, 64, .inl (fun _ => 0))), (h10, .inr (6, [.ref h11, .int 0])), (h11, .inl (k5, 64, .inl (fun _ => 0))), (h2, .inr (6, [.ref h3, .int 1])), (h3, .inl (k1, 64, .inl f101))] H := hP
    have hD : va_D A [(h0, .inr (7, [.ref h1, .ref z0, .ref z1, .ref h2, .ref z2, .ref z3, .int 0, .int 0, .int 0])), (h1, .inl (k0, 4, .inr (.inr (.inr (.inr (va_up (va_up (va_up (va_up (fun _ => none) 0 (some h4)) 1 (some h6)) 2 (some h8)) 3 (some h10))))))), (h4, .inr (6, [.ref h5, .int 0])), (h5, .inl (k2, 64, .inl (fun _ => 0))), (h6, .inr (6, [.ref h7, .int 0])), (h7, .inl (k3, 64, .inl (fun _ => 0))), (h8, .inr (6, [.ref h9, .int 0])), (h9, .inl (k4, 64, .inl (fun _ => 0))), (h10, .inr (6, [.ref h11, .int 0])), (h11, .inl (k5, 64, .inl (fun _ => 0))), (h2, .inr (6, [.ref h3, .int 1])), (h3, .inl (k1, 64, .inl f101))] := hD
    have hP := hP.sub (ws' := [(h0, .inr (7, [.ref h1, .ref z0, .ref z1, .ref h2, .ref z2, .ref z3, .int 0, .int 0, .int 0])), (h1, .inl (k0, 4, .inr (.inr (.inr (.inr (va_up (va_up (va_up (va_up (fun _ => none) 0 (some h4)) 1 (some h6)) 2 (some h8)) 3 (some h10))))))), (h2, .inr (6, [.ref h3, .int 1])), (h3, .inl (k1, 64, .inl f101)), (h4, .inr (6, [.ref h5, .int 0])), (h5, .inl (k2, 64, .inl (fun _ => 0))), (h6, .inr (6, [.ref h7, .int 0])), (h7, .inl (k3, 64, .inl (fun _ => 0))), (h8, .inr (6, [.ref h9, .int 0])), (h9, .inl (k4, 64, .inl (fun _ => 0))), (h10, .inr (6, [.ref h11, .int 0])), (h11, .inl (k5, 64, .inl (fun _ => 0)))]) [0, 1, 10, 11, 2, 3, 4, 5, 6, 7, 8, 9] rfl
    have hD := hD.sub (ws' := [(h0, .inr (7, [.ref h1, .ref z0, .ref z1, .ref h2, .ref z2, .ref z3, .int 0, .int 0, .int 0])), (h1, .inl (k0, 4, .inr (.inr (.inr (.inr (va_up (va_up (va_up (va_up (fun _ => none) 0 (some h4)) 1 (some h6)) 2 (some h8)) 3 (some h10))))))), (h2, .inr (6, [.ref h3, .int 1])), (h3, .inl (k1, 64, .inl f101)), (h4, .inr (6, [.ref h5, .int 0])), (h5, .inl (k2, 64, .inl (fun _ => 0))), (h6, .inr (6, [.ref h7, .int 0])), (h7, .inl (k3, 64, .inl (fun _ => 0))), (h8, .inr (6, [.ref h9, .int 0])), (h9, .inl (k4, 64, .inl (fun _ => 0))), (h10, .inr (6, [.ref h11, .int 0])), (h11, .inl (k5, 64, .inl (fun _ => 0)))]) [0, 1, 10, 11, 2, 3, 4, 5, 6, 7, 8, 9] (by decide) rfl
    have hK := hK.sub (tys' := [(k0, .object "Rewriterope$Text"), (k1, .byte), (k2, .byte), (k3, .byte), (k4, .byte), (k5, .byte)]) [0, 1, 2, 3, 4, 5] rfl
    have hl := lv_sub hl [0, 1, 3] (show lv_pick [(0, .ref h0), (1, .int rp), (5, .int l4), (6, .int l5)] [0, 1, 3] = [(0, .ref h0), (1, .int rp), (6, .int l5)] from rfl)
    exact kx_X3_type_h41 f101_t hR rp_l rp_u l5_l l5_u hx hb hr hml hown hts hlocks hA hS hK hP hD hl
set_option maxHeartbeats 8000000 in
set_option maxRecDepth 100000 in
theorem kx_X3_type_h31 {l : Launch} {dC : Nat → ClassId} {dI : Nat → Nat → Nat} {h0 h1 h2 h3 h4 h5 h6 h7 h8 h9 h10 h11 z0 z1 z2 z3 : Nat} {k0 k1 k2 k3 k4 k5 : ClassId} {rp l4 l5 R : Int32} {p : Program} {e : Env} {s : State} {m : MethodId} {args : Array Value} {below : List Frame} {meth : Method} {c : Code} {A : Nat → Prop} {H : Heap} {locs : List Loc} {ls : Array Slot} {f0 : Nat → Int32} (f0_t : sb_Fit f0) (hR : kz_ct 1 [l4, l5] = R) (rp_l : (0 : Int) ≤ rp.toInt) (rp_u : rp.toInt ≤ (3 : Int)) (l4_l : (-1 : Int) ≤ l4.toInt) (l4_u : l4.toInt ≤ (3 : Int)) (l5_l : (-1 : Int) ≤ l5.toInt) (l5_u : l5.toInt ≤ (3 : Int)) (hx : p.tables.exec = Jvm.exec) (hb : c.code = cX3_type) (hr : meth.sig.returnType = some .int) (hml : c.maxLocals = 8) (hown : s.vm.findClass RX3 = some m.cls) (hts : ∀ w ∈ wsX3_type, w.before args s = true) (hlocks : meth.locks = false) (hA : ∀ q : Nat, s.heap.size ≤ q → A q) (hS : va_S A s.heap H locs) (hK : va_K (dC, dI) vwCl [(k0, .object "Rewriterope$Text"), (k1, .byte), (k2, .byte), (k3, .byte), (k4, .byte), (k5, .byte)] s) (hP : va_P (dC, dI) vwCl [(h0, .inr (7, [.ref h1, .ref z0, .ref z1, .ref h2, .ref z2, .ref z3, .int 0, .int 0, .int 0])), (h1, .inl (k0, 4, .inr (.inr (.inr (.inr (va_up (va_up (va_up (va_up (fun _ => none) 0 (some h4)) 1 (some h6)) 2 (some h8)) 3 (some h10))))))), (h2, .inr (6, [.ref h3, .int 1])), (h3, .inl (k1, 64, .inl f0)), (h4, .inr (6, [.ref h5, .int 0])), (h5, .inl (k2, 64, .inl (fun _ => 0))), (h6, .inr (6, [.ref h7, .int 0])), (h7, .inl (k3, 64, .inl (fun _ => 0))), (h8, .inr (6, [.ref h9, .int 0])), (h9, .inl (k4, 64, .inl (fun _ => 0))), (h10, .inr (6, [.ref h11, .int 0])), (h11, .inl (k5, 64, .inl (fun _ => 0)))] H) (hD : va_D A [(h0, .inr (7, [.ref h1, .ref z0, .ref z1, .ref h2, .ref z2, .ref z3, .int 0, .int 0, .int 0])), (h1, .inl (k0, 4, .inr (.inr (.inr (.inr (va_up (va_up (va_up (va_up (fun _ => none) 0 (some h4)) 1 (some h6)) 2 (some h8)) 3 (some h10))))))), (h2, .inr (6, [.ref h3, .int 1])), (h3, .inl (k1, 64, .inl f0)), (h4, .inr (6, [.ref h5, .int 0])), (h5, .inl (k2, 64, .inl (fun _ => 0))), (h6, .inr (6, [.ref h7, .int 0])), (h7, .inl (k3, 64, .inl (fun _ => 0))), (h8, .inr (6, [.ref h9, .int 0])), (h9, .inl (k4, 64, .inl (fun _ => 0))), (h10, .inr (6, [.ref h11, .int 0])), (h11, .inl (k5, 64, .inl (fun _ => 0)))]) (hl : lv_has ls 8 [(0, .ref h0), (1, .int rp), (5, .int l4), (6, .int l5)]) : W p l e (headSpec wsX3_type ({ frames := 2, cells := 0, slots := 0, locals := 84 })).room s m args below meth c H locs 0 0 (MQ below (va_Qi (fun (r : Int32) (_ : Unit) => r = R) (fun (_ : Unit) (t : State) => va_P (dC, dI) vwCl [(h0, .inr (7, [.ref h1, .ref z0, .ref z1, .ref h2, .ref z2, .ref z3, .int 0, .int 0, .int 0]))] t.heap ∧ va_K (dC, dI) vwCl [(k0, .object "Rewriterope$Text"), (k1, .byte), (k2, .byte), (k3, .byte), (k4, .byte), (k5, .byte)] t ∧ va_D A [(h0, .inr (7, [.ref h1, .ref z0, .ref z1, .ref h2, .ref z2, .ref z3, .int 0, .int 0, .int 0]))]) A) args s 0 0 A) (F0 m 59 ls []) := by
  rcases Int.lt_or_le l4.toInt 0 with r9 | r9
  · obtain rfl : l4 = -1 := Int32.toInt_inj.mp (by rw [show (-1 : Int32).toInt = -1 from by decide]; omega)
    have hR : kz_ct 1 [l5] = R := kz_ct_n.symm.trans hR
    refine lv_aload_n hx hb dX3_type_59 rfl (lv_at hl 0 rfl) ?_
    refine va_get (D := (dC, dI)) (ci := 7) (v := .ref h2) (C := RX3) (T := TX3) (N := 9) hx hb hts (by decide +kernel) hown hK hP 0 rfl rfl 3 (by decide) (hts (.fieldLink RX3 32 "Rewriterope" "work" "LRewriterope$Text;") (by decide +kernel)) (fun _ h9 => h9) rfl dX3_type_60 ?_
    refine lv_iload hx hb dX3_type_63 (lv_at hl 2 rfl) ?_
    have hPc := hP.sub (ws' := [(h2, .inr (6, [.ref h3, .int 1]))]) [2] rfl
    have hDc := hD.sub (ws' := [(h2, .inr (6, [.ref h3, .int 1]))]) [2] (by decide) rfl
    have hKc := hK.sub (tys' := []) [] rfl
    have hFc := va_free (wc := [(h2, .inr (6, [.ref h3, .int 1]))]) hD hS hA [2] rfl
    refine va_callv (va_runV (As := [.int (-1)]) (rest := []) ⟨hx, hb, hml, hown, hts⟩ (kx_X2_add_7 l dC dI h2 h3 H.size) (cwV 1 hts gX3_type_X2_add rfl rfl rfl (by decide +kernel) ⟨Nat.le_of_ble_eq_true rfl, Nat.le_of_ble_eq_true rfl⟩) ⟨fun a U g mk q => by obtain ⟨q0, q1, qP, qK, qD⟩ := q; exact ⟨q0, q1, qP, va_K.moved (u := U) (U := U.calling g mk a) (Vm.Alike.refl U.vm) qK, qD⟩, va_recv hKc hPc (ci := 6) (q0 := 0) rfl rfl, fun U hU hW => ⟨rfl, by rw [hU], by rw [hU]; exact hPc, va_K.moved hW.alike hKc, hDc.weaken (fun _ _ _ _ => trivial)⟩⟩ rfl rfl hl.1 rfl (lv_room (Nat.le_of_ble_eq_true rfl)) dX3_type_65 ⟨Nat.le_of_ble_eq_true rfl, Nat.le_of_ble_eq_true rfl⟩) hS (fun q _ h => hFc q h) hFc (fun u t H1 locs ht hvm hw hB hz1 hk1 hS => ?_)
    obtain ⟨hP1, hK1, hD1⟩ := hB
    rw [ht] at hP1
    have hK1 := va_K.moved hvm.symm hK1
    obtain ⟨hP, hD⟩ := va_join (wr := [(h0, .inr (7, [.ref h1, .ref z0, .ref z1, .ref h2, .ref z2, .ref z3, .int 0, .int 0, .int 0])), (h1, .inl (k0, 4, .inr (.inr (.inr (.inr (va_up (va_up (va_up (va_up (fun _ => none) 0 (some h4)) 1 (some h6)) 2 (some h8)) 3 (some h10))))))), (h3, .inl (k1, 64, .inl f0)), (h4, .inr (6, [.ref h5, .int 0])), (h5, .inl (k2, 64, .inl (fun _ => 0))), (h6, .inr (6, [.ref h7, .int 0])), (h7, .inl (k3, 64, .inl (fun _ => 0))), (h8, .inr (6, [.ref h9, .int 0])), (h9, .inl (k4, 64, .inl (fun _ => 0))), (h10, .inr (6, [.ref h11, .int 0])), (h11, .inl (k5, 64, .inl (fun _ => 0)))]) (w1 := [(h2, .inr (6, [.ref h3, .int 1]))]) hP hD [2] [0, 1, 3, 4, 5, 6, 7, 8, 9, 10, 11] rfl rfl (by decide) (by decide) hk1 hFc hP1 hD1
    generalize H1 = H at hP hS ⊢
    have hP : va_P (dC, dI) vwCl [(h0, .inr (7, [.ref h1, .ref z0, .ref z1, .ref h2, .ref z2, .ref z3, .int 0, .int 0, .int 0])), (h1, .inl (k0, 4, .inr (.inr (.inr (.inr (va_up (va_up (va_up (va_up (fun _ => none) 0 (some h4)) 1 (some h6)) 2 (some h8)) 3 (some h10))))))), (h3, .inl (k1, 64, .inl f0)), (h4, .inr (6, [.ref h5, .int 0])), (h5, .inl (k2, 64, .inl (fun _ => 0))), (h6, .inr (6, [.ref h7, .int 0])), (h7, .inl (k3, 64, .inl (fun _ => 0))), (h8, .inr (6, [.ref h9, .int 0])), (h9, .inl (k4, 64, .inl (fun _ => 0))), (h10, .inr (6, [.ref h11, .int 0])), (h11, .inl (k5, 64, .inl (fun _ => 0))), (h2, .inr (6, [.ref h3, .int 1]))] H := hP
    have hD : va_D A [(h0, .inr (7, [.ref h1, .ref z0, .ref z1, .ref h2, .ref z2, .ref z3, .int 0, .int 0, .int 0])), (h1, .inl (k0, 4, .inr (.inr (.inr (.inr (va_up (va_up (va_up (va_up (fun _ => none) 0 (some h4)) 1 (some h6)) 2 (some h8)) 3 (some h10))))))), (h3, .inl (k1, 64, .inl f0)), (h4, .inr (6, [.ref h5, .int 0])), (h5, .inl (k2, 64, .inl (fun _ => 0))), (h6, .inr (6, [.ref h7, .int 0])), (h7, .inl (k3, 64, .inl (fun _ => 0))), (h8, .inr (6, [.ref h9, .int 0])), (h9, .inl (k4, 64, .inl (fun _ => 0))), (h10, .inr (6, [.ref h11, .int 0])), (h11, .inl (k5, 64, .inl (fun _ => 0))), (h2, .inr (6, [.ref h3, .int 1]))] := hD
    have hP := hP.sub (ws' := [(h0, .inr (7, [.ref h1, .ref z0, .ref z1, .ref h2, .ref z2, .ref z3, .int 0, .int 0, .int 0])), (h1, .inl (k0, 4, .inr (.inr (.inr (.inr (va_up (va_up (va_up (va_up (fun _ => none) 0 (some h4)) 1 (some h6)) 2 (some h8)) 3 (some h10))))))), (h2, .inr (6, [.ref h3, .int 1])), (h3, .inl (k1, 64, .inl f0)), (h4, .inr (6, [.ref h5, .int 0])), (h5, .inl (k2, 64, .inl (fun _ => 0))), (h6, .inr (6, [.ref h7, .int 0])), (h7, .inl (k3, 64, .inl (fun _ => 0))), (h8, .inr (6, [.ref h9, .int 0])), (h9, .inl (k4, 64, .inl (fun _ => 0))), (h10, .inr (6, [.ref h11, .int 0])), (h11, .inl (k5, 64, .inl (fun _ => 0)))]) [0, 1, 11, 2, 3, 4, 5, 6, 7, 8, 9, 10] rfl
    have hD := hD.sub (ws' := [(h0, .inr (7, [.ref h1, .ref z0, .ref z1, .ref h2, .ref z2, .ref z3, .int 0, .int 0, .int 0])), (h1, .inl (k0, 4, .inr (.inr (.inr (.inr (va_up (va_up (va_up (va_up (fun _ => none) 0 (some h4)) 1 (some h6)) 2 (some h8)) 3 (some h10))))))), (h2, .inr (6, [.ref h3, .int 1])), (h3, .inl (k1, 64, .inl f0)), (h4, .inr (6, [.ref h5, .int 0])), (h5, .inl (k2, 64, .inl (fun _ => 0))), (h6, .inr (6, [.ref h7, .int 0])), (h7, .inl (k3, 64, .inl (fun _ => 0))), (h8, .inr (6, [.ref h9, .int 0])), (h9, .inl (k4, 64, .inl (fun _ => 0))), (h10, .inr (6, [.ref h11, .int 0])), (h11, .inl (k5, 64, .inl (fun _ => 0)))]) [0, 1, 11, 2, 3, 4, 5, 6, 7, 8, 9, 10] (by decide) rfl
    have hK := hK.sub (tys' := [(k0, .object "Rewriterope$Text"), (k1, .byte), (k2, .byte), (k3, .byte), (k4, .byte), (k5, .byte)]) [0, 1, 2, 3, 4, 5] rfl
    have hl := lv_sub hl [0, 1, 3] (show lv_pick [(0, .ref h0), (1, .int rp), (5, .int (-1)), (6, .int l5)] [0, 1, 3] = [(0, .ref h0), (1, .int rp), (6, .int l5)] from rfl)
    exact kx_X3_type_h41 f0_t hR rp_l rp_u l5_l l5_u hx hb hr hml hown hts hlocks hA hS hK hP hD hl
  · have l4_l : (0 : Int) ≤ l4.toInt := r9
    have hR : kz_ct 2 [l5] = R := (kz_ct_g l4_l).symm.trans hR
    refine lv_aload_n hx hb dX3_type_59 rfl (lv_at hl 0 rfl) ?_
    refine va_get (D := (dC, dI)) (ci := 7) (v := .ref h2) (C := RX3) (T := TX3) (N := 9) hx hb hts (by decide +kernel) hown hK hP 0 rfl rfl 3 (by decide) (hts (.fieldLink RX3 32 "Rewriterope" "work" "LRewriterope$Text;") (by decide +kernel)) (fun _ h9 => h9) rfl dX3_type_60 ?_
    refine lv_iload hx hb dX3_type_63 (lv_at hl 2 rfl) ?_
    have hPc := hP.sub (ws' := [(h2, .inr (6, [.ref h3, .int 1])), (h3, .inl (k1, 64, .inl f0))]) [2, 3] rfl
    have hDc := hD.sub (ws' := [(h2, .inr (6, [.ref h3, .int 1])), (h3, .inl (k1, 64, .inl f0))]) [2, 3] (by decide) rfl
    have hKc := hK.sub (tys' := [(k1, .byte)]) [1] rfl
    have hFc := va_free (wc := [(h2, .inr (6, [.ref h3, .int 1])), (h3, .inl (k1, 64, .inl f0))]) hD hS hA [2, 3] rfl
    refine va_callv (va_runV (As := [.int l4]) (rest := []) ⟨hx, hb, hml, hown, hts⟩ (kx_X2_add_8 l dC dI h2 h3 k1 H.size f0 f0_t l4 l4_l l4_u) (cwV 1 hts gX3_type_X2_add rfl rfl rfl (by decide +kernel) ⟨Nat.le_of_ble_eq_true rfl, Nat.le_of_ble_eq_true rfl⟩) ⟨fun a U g mk q => by obtain ⟨q0, q1, qP, qK, qD⟩ := q; exact ⟨q0, q1, qP, va_K.moved (u := U) (U := U.calling g mk a) (Vm.Alike.refl U.vm) qK, qD⟩, va_recv hKc hPc (ci := 6) (q0 := 0) rfl rfl, fun U hU hW => ⟨rfl, by rw [hU], by rw [hU]; exact hPc, va_K.moved hW.alike hKc, hDc.weaken (fun _ _ _ _ => trivial)⟩⟩ rfl rfl hl.1 rfl (lv_room (Nat.le_of_ble_eq_true rfl)) dX3_type_65 ⟨Nat.le_of_ble_eq_true rfl, Nat.le_of_ble_eq_true rfl⟩) hS (fun q _ h => hFc q h) hFc (fun u t H1 locs ht hvm hw hB hz1 hk1 hS => ?_)
    obtain ⟨f101, f101_t, hP1, hK1, hD1⟩ := hB
    rw [ht] at hP1
    have hK1 := va_K.moved hvm.symm hK1
    obtain ⟨hP, hD⟩ := va_join (wr := [(h0, .inr (7, [.ref h1, .ref z0, .ref z1, .ref h2, .ref z2, .ref z3, .int 0, .int 0, .int 0])), (h1, .inl (k0, 4, .inr (.inr (.inr (.inr (va_up (va_up (va_up (va_up (fun _ => none) 0 (some h4)) 1 (some h6)) 2 (some h8)) 3 (some h10))))))), (h4, .inr (6, [.ref h5, .int 0])), (h5, .inl (k2, 64, .inl (fun _ => 0))), (h6, .inr (6, [.ref h7, .int 0])), (h7, .inl (k3, 64, .inl (fun _ => 0))), (h8, .inr (6, [.ref h9, .int 0])), (h9, .inl (k4, 64, .inl (fun _ => 0))), (h10, .inr (6, [.ref h11, .int 0])), (h11, .inl (k5, 64, .inl (fun _ => 0)))]) (w1 := [(h2, .inr (6, [.ref h3, .int 2])), (h3, .inl (k1, 64, .inl f101))]) hP hD [2, 3] [0, 1, 4, 5, 6, 7, 8, 9, 10, 11] rfl rfl (by decide) (by decide) hk1 hFc hP1 hD1
    generalize H1 = H at hP hS ⊢
    have hP : va_P (dC, dI) vwCl [(h0, .inr (7, [.ref h1, .ref z0, .ref z1, .ref h2, .ref z2, .ref z3, .int 0, .int 0, .int 0])), (h1, .inl (k0, 4, .inr (.inr (.inr (.inr (va_up (va_up (va_up (va_up (fun _ => none) 0 (some h4)) 1 (some h6)) 2 (some h8)) 3 (some h10))))))), (h4, .inr (6, [.ref h5, .int 0])), (h5, .inl (k2, 64, .inl (fun _ => 0))), (h6, .inr (6, [.ref h7, .int 0])), (h7, .inl (k3, 64, .inl (fun _ => 0))), (h8, .inr (6, [.ref h9, .int 0])), (h9, .inl (k4, 64, .inl (fun _ => 0))), (h10, .inr (6, [.ref h11, .int 0])), (h11, .inl (k5, 64, .inl (fun _ => 0))), (h2, .inr (6, [.ref h3, .int 2])), (h3, .inl (k1, 64, .inl f101))] H := hP
    have hD : va_D A [(h0, .inr (7, [.ref h1, .ref z0, .ref z1, .ref h2, .ref z2, .ref z3, .int 0, .int 0, .int 0])), (h1, .inl (k0, 4, .inr (.inr (.inr (.inr (va_up (va_up (va_up (va_up (fun _ => none) 0 (some h4)) 1 (some h6)) 2 (some h8)) 3 (some h10))))))), (h4, .inr (6, [.ref h5, .int 0])), (h5, .inl (k2, 64, .inl (fun _ => 0))), (h6, .inr (6, [.ref h7, .int 0])), (h7, .inl (k3, 64, .inl (fun _ => 0))), (h8, .inr (6, [.ref h9, .int 0])), (h9, .inl (k4, 64, .inl (fun _ => 0))), (h10, .inr (6, [.ref h11, .int 0])), (h11, .inl (k5, 64, .inl (fun _ => 0))), (h2, .inr (6, [.ref h3, .int 2])), (h3, .inl (k1, 64, .inl f101))] := hD
    have hP := hP.sub (ws' := [(h0, .inr (7, [.ref h1, .ref z0, .ref z1, .ref h2, .ref z2, .ref z3, .int 0, .int 0, .int 0])), (h1, .inl (k0, 4, .inr (.inr (.inr (.inr (va_up (va_up (va_up (va_up (fun _ => none) 0 (some h4)) 1 (some h6)) 2 (some h8)) 3 (some h10))))))), (h2, .inr (6, [.ref h3, .int 2])), (h3, .inl (k1, 64, .inl f101)), (h4, .inr (6, [.ref h5, .int 0])), (h5, .inl (k2, 64, .inl (fun _ => 0))), (h6, .inr (6, [.ref h7, .int 0])), (h7, .inl (k3, 64, .inl (fun _ => 0))), (h8, .inr (6, [.ref h9, .int 0])), (h9, .inl (k4, 64, .inl (fun _ => 0))), (h10, .inr (6, [.ref h11, .int 0])), (h11, .inl (k5, 64, .inl (fun _ => 0)))]) [0, 1, 10, 11, 2, 3, 4, 5, 6, 7, 8, 9] rfl
    have hD := hD.sub (ws' := [(h0, .inr (7, [.ref h1, .ref z0, .ref z1, .ref h2, .ref z2, .ref z3, .int 0, .int 0, .int 0])), (h1, .inl (k0, 4, .inr (.inr (.inr (.inr (va_up (va_up (va_up (va_up (fun _ => none) 0 (some h4)) 1 (some h6)) 2 (some h8)) 3 (some h10))))))), (h2, .inr (6, [.ref h3, .int 2])), (h3, .inl (k1, 64, .inl f101)), (h4, .inr (6, [.ref h5, .int 0])), (h5, .inl (k2, 64, .inl (fun _ => 0))), (h6, .inr (6, [.ref h7, .int 0])), (h7, .inl (k3, 64, .inl (fun _ => 0))), (h8, .inr (6, [.ref h9, .int 0])), (h9, .inl (k4, 64, .inl (fun _ => 0))), (h10, .inr (6, [.ref h11, .int 0])), (h11, .inl (k5, 64, .inl (fun _ => 0)))]) [0, 1, 10, 11, 2, 3, 4, 5, 6, 7, 8, 9] (by decide) rfl
    have hK := hK.sub (tys' := [(k0, .object "Rewriterope$Text"), (k1, .byte), (k2, .byte), (k3, .byte), (k4, .byte), (k5, .byte)]) [0, 1, 2, 3, 4, 5] rfl
    have hl := lv_sub hl [0, 1, 3] (show lv_pick [(0, .ref h0), (1, .int rp), (5, .int l4), (6, .int l5)] [0, 1, 3] = [(0, .ref h0), (1, .int rp), (6, .int l5)] from rfl)
    exact kx_X3_type_h42 f101_t hR rp_l rp_u l5_l l5_u hx hb hr hml hown hts hlocks hA hS hK hP hD hl
set_option maxHeartbeats 8000000 in
set_option maxRecDepth 100000 in
theorem kx_X3_type_h32 {l : Launch} {dC : Nat → ClassId} {dI : Nat → Nat → Nat} {h0 h1 h2 h3 h4 h5 h6 h7 h8 h9 h10 h11 z0 z1 z2 z3 : Nat} {k0 k1 k2 k3 k4 k5 : ClassId} {rp l4 l5 R : Int32} {p : Program} {e : Env} {s : State} {m : MethodId} {args : Array Value} {below : List Frame} {meth : Method} {c : Code} {A : Nat → Prop} {H : Heap} {locs : List Loc} {ls : Array Slot} {f0 : Nat → Int32} (f0_t : sb_Fit f0) (hR : kz_ct 2 [l4, l5] = R) (rp_l : (0 : Int) ≤ rp.toInt) (rp_u : rp.toInt ≤ (3 : Int)) (l4_l : (-1 : Int) ≤ l4.toInt) (l4_u : l4.toInt ≤ (3 : Int)) (l5_l : (-1 : Int) ≤ l5.toInt) (l5_u : l5.toInt ≤ (3 : Int)) (hx : p.tables.exec = Jvm.exec) (hb : c.code = cX3_type) (hr : meth.sig.returnType = some .int) (hml : c.maxLocals = 8) (hown : s.vm.findClass RX3 = some m.cls) (hts : ∀ w ∈ wsX3_type, w.before args s = true) (hlocks : meth.locks = false) (hA : ∀ q : Nat, s.heap.size ≤ q → A q) (hS : va_S A s.heap H locs) (hK : va_K (dC, dI) vwCl [(k0, .object "Rewriterope$Text"), (k1, .byte), (k2, .byte), (k3, .byte), (k4, .byte), (k5, .byte)] s) (hP : va_P (dC, dI) vwCl [(h0, .inr (7, [.ref h1, .ref z0, .ref z1, .ref h2, .ref z2, .ref z3, .int 0, .int 0, .int 0])), (h1, .inl (k0, 4, .inr (.inr (.inr (.inr (va_up (va_up (va_up (va_up (fun _ => none) 0 (some h4)) 1 (some h6)) 2 (some h8)) 3 (some h10))))))), (h2, .inr (6, [.ref h3, .int 2])), (h3, .inl (k1, 64, .inl f0)), (h4, .inr (6, [.ref h5, .int 0])), (h5, .inl (k2, 64, .inl (fun _ => 0))), (h6, .inr (6, [.ref h7, .int 0])), (h7, .inl (k3, 64, .inl (fun _ => 0))), (h8, .inr (6, [.ref h9, .int 0])), (h9, .inl (k4, 64, .inl (fun _ => 0))), (h10, .inr (6, [.ref h11, .int 0])), (h11, .inl (k5, 64, .inl (fun _ => 0)))] H) (hD : va_D A [(h0, .inr (7, [.ref h1, .ref z0, .ref z1, .ref h2, .ref z2, .ref z3, .int 0, .int 0, .int 0])), (h1, .inl (k0, 4, .inr (.inr (.inr (.inr (va_up (va_up (va_up (va_up (fun _ => none) 0 (some h4)) 1 (some h6)) 2 (some h8)) 3 (some h10))))))), (h2, .inr (6, [.ref h3, .int 2])), (h3, .inl (k1, 64, .inl f0)), (h4, .inr (6, [.ref h5, .int 0])), (h5, .inl (k2, 64, .inl (fun _ => 0))), (h6, .inr (6, [.ref h7, .int 0])), (h7, .inl (k3, 64, .inl (fun _ => 0))), (h8, .inr (6, [.ref h9, .int 0])), (h9, .inl (k4, 64, .inl (fun _ => 0))), (h10, .inr (6, [.ref h11, .int 0])), (h11, .inl (k5, 64, .inl (fun _ => 0)))]) (hl : lv_has ls 8 [(0, .ref h0), (1, .int rp), (5, .int l4), (6, .int l5)]) : W p l e (headSpec wsX3_type ({ frames := 2, cells := 0, slots := 0, locals := 84 })).room s m args below meth c H locs 0 0 (MQ below (va_Qi (fun (r : Int32) (_ : Unit) => r = R) (fun (_ : Unit) (t : State) => va_P (dC, dI) vwCl [(h0, .inr (7, [.ref h1, .ref z0, .ref z1, .ref h2, .ref z2, .ref z3, .int 0, .int 0, .int 0]))] t.heap ∧ va_K (dC, dI) vwCl [(k0, .object "Rewriterope$Text"), (k1, .byte), (k2, .byte), (k3, .byte), (k4, .byte), (k5, .byte)] t ∧ va_D A [(h0, .inr (7, [.ref h1, .ref z0, .ref z1, .ref h2, .ref z2, .ref z3, .int 0, .int 0, .int 0]))]) A) args s 0 0 A) (F0 m 59 ls []) := by
  rcases Int.lt_or_le l4.toInt 0 with r9 | r9
  · obtain rfl : l4 = -1 := Int32.toInt_inj.mp (by rw [show (-1 : Int32).toInt = -1 from by decide]; omega)
    have hR : kz_ct 2 [l5] = R := kz_ct_n.symm.trans hR
    refine lv_aload_n hx hb dX3_type_59 rfl (lv_at hl 0 rfl) ?_
    refine va_get (D := (dC, dI)) (ci := 7) (v := .ref h2) (C := RX3) (T := TX3) (N := 9) hx hb hts (by decide +kernel) hown hK hP 0 rfl rfl 3 (by decide) (hts (.fieldLink RX3 32 "Rewriterope" "work" "LRewriterope$Text;") (by decide +kernel)) (fun _ h9 => h9) rfl dX3_type_60 ?_
    refine lv_iload hx hb dX3_type_63 (lv_at hl 2 rfl) ?_
    have hPc := hP.sub (ws' := [(h2, .inr (6, [.ref h3, .int 2]))]) [2] rfl
    have hDc := hD.sub (ws' := [(h2, .inr (6, [.ref h3, .int 2]))]) [2] (by decide) rfl
    have hKc := hK.sub (tys' := []) [] rfl
    have hFc := va_free (wc := [(h2, .inr (6, [.ref h3, .int 2]))]) hD hS hA [2] rfl
    refine va_callv (va_runV (As := [.int (-1)]) (rest := []) ⟨hx, hb, hml, hown, hts⟩ (kx_X2_add_9 l dC dI h2 h3 H.size) (cwV 1 hts gX3_type_X2_add rfl rfl rfl (by decide +kernel) ⟨Nat.le_of_ble_eq_true rfl, Nat.le_of_ble_eq_true rfl⟩) ⟨fun a U g mk q => by obtain ⟨q0, q1, qP, qK, qD⟩ := q; exact ⟨q0, q1, qP, va_K.moved (u := U) (U := U.calling g mk a) (Vm.Alike.refl U.vm) qK, qD⟩, va_recv hKc hPc (ci := 6) (q0 := 0) rfl rfl, fun U hU hW => ⟨rfl, by rw [hU], by rw [hU]; exact hPc, va_K.moved hW.alike hKc, hDc.weaken (fun _ _ _ _ => trivial)⟩⟩ rfl rfl hl.1 rfl (lv_room (Nat.le_of_ble_eq_true rfl)) dX3_type_65 ⟨Nat.le_of_ble_eq_true rfl, Nat.le_of_ble_eq_true rfl⟩) hS (fun q _ h => hFc q h) hFc (fun u t H1 locs ht hvm hw hB hz1 hk1 hS => ?_)
    obtain ⟨hP1, hK1, hD1⟩ := hB
    rw [ht] at hP1
    have hK1 := va_K.moved hvm.symm hK1
    obtain ⟨hP, hD⟩ := va_join (wr := [(h0, .inr (7, [.ref h1, .ref z0, .ref z1, .ref h2, .ref z2, .ref z3, .int 0, .int 0, .int 0])), (h1, .inl (k0, 4, .inr (.inr (.inr (.inr (va_up (va_up (va_up (va_up (fun _ => none) 0 (some h4)) 1 (some h6)) 2 (some h8)) 3 (some h10))))))), (h3, .inl (k1, 64, .inl f0)), (h4, .inr (6, [.ref h5, .int 0])), (h5, .inl (k2, 64, .inl (fun _ => 0))), (h6, .inr (6, [.ref h7, .int 0])), (h7, .inl (k3, 64, .inl (fun _ => 0))), (h8, .inr (6, [.ref h9, .int 0])), (h9, .inl (k4, 64, .inl (fun _ => 0))), (h10, .inr (6, [.ref h11, .int 0])), (h11, .inl (k5, 64, .inl (fun _ => 0)))]) (w1 := [(h2, .inr (6, [.ref h3, .int 2]))]) hP hD [2] [0, 1, 3, 4, 5, 6, 7, 8, 9, 10, 11] rfl rfl (by decide) (by decide) hk1 hFc hP1 hD1
    generalize H1 = H at hP hS ⊢
    have hP : va_P (dC, dI) vwCl [(h0, .inr (7, [.ref h1, .ref z0, .ref z1, .ref h2, .ref z2, .ref z3, .int 0, .int 0, .int 0])), (h1, .inl (k0, 4, .inr (.inr (.inr (.inr (va_up (va_up (va_up (va_up (fun _ => none) 0 (some h4)) 1 (some h6)) 2 (some h8)) 3 (some h10))))))), (h3, .inl (k1, 64, .inl f0)), (h4, .inr (6, [.ref h5, .int 0])), (h5, .inl (k2, 64, .inl (fun _ => 0))), (h6, .inr (6, [.ref h7, .int 0])), (h7, .inl (k3, 64, .inl (fun _ => 0))), (h8, .inr (6, [.ref h9, .int 0])), (h9, .inl (k4, 64, .inl (fun _ => 0))), (h10, .inr (6, [.ref h11, .int 0])), (h11, .inl (k5, 64, .inl (fun _ => 0))), (h2, .inr (6, [.ref h3, .int 2]))] H := hP
    have hD : va_D A [(h0, .inr (7, [.ref h1, .ref z0, .ref z1, .ref h2, .ref z2, .ref z3, .int 0, .int 0, .int 0])), (h1, .inl (k0, 4, .inr (.inr (.inr (.inr (va_up (va_up (va_up (va_up (fun _ => none) 0 (some h4)) 1 (some h6)) 2 (some h8)) 3 (some h10))))))), (h3, .inl (k1, 64, .inl f0)), (h4, .inr (6, [.ref h5, .int 0])), (h5, .inl (k2, 64, .inl (fun _ => 0))), (h6, .inr (6, [.ref h7, .int 0])), (h7, .inl (k3, 64, .inl (fun _ => 0))), (h8, .inr (6, [.ref h9, .int 0])), (h9, .inl (k4, 64, .inl (fun _ => 0))), (h10, .inr (6, [.ref h11, .int 0])), (h11, .inl (k5, 64, .inl (fun _ => 0))), (h2, .inr (6, [.ref h3, .int 2]))] := hD
    have hP := hP.sub (ws' := [(h0, .inr (7, [.ref h1, .ref z0, .ref z1, .ref h2, .ref z2, .ref z3, .int 0, .int 0, .int 0])), (h1, .inl (k0, 4, .inr (.inr (.inr (.inr (va_up (va_up (va_up (va_up (fun _ => none) 0 (some h4)) 1 (some h6)) 2 (some h8)) 3 (some h10))))))), (h2, .inr (6, [.ref h3, .int 2])), (h3, .inl (k1, 64, .inl f0)), (h4, .inr (6, [.ref h5, .int 0])), (h5, .inl (k2, 64, .inl (fun _ => 0))), (h6, .inr (6, [.ref h7, .int 0])), (h7, .inl (k3, 64, .inl (fun _ => 0))), (h8, .inr (6, [.ref h9, .int 0])), (h9, .inl (k4, 64, .inl (fun _ => 0))), (h10, .inr (6, [.ref h11, .int 0])), (h11, .inl (k5, 64, .inl (fun _ => 0)))]) [0, 1, 11, 2, 3, 4, 5, 6, 7, 8, 9, 10] rfl
    have hD := hD.sub (ws' := [(h0, .inr (7, [.ref h1, .ref z0, .ref z1, .ref h2, .ref z2, .ref z3, .int 0, .int 0, .int 0])), (h1, .inl (k0, 4, .inr (.inr (.inr (.inr (va_up (va_up (va_up (va_up (fun _ => none) 0 (some h4)) 1 (some h6)) 2 (some h8)) 3 (some h10))))))), (h2, .inr (6, [.ref h3, .int 2])), (h3, .inl (k1, 64, .inl f0)), (h4, .inr (6, [.ref h5, .int 0])), (h5, .inl (k2, 64, .inl (fun _ => 0))), (h6, .inr (6, [.ref h7, .int 0])), (h7, .inl (k3, 64, .inl (fun _ => 0))), (h8, .inr (6, [.ref h9, .int 0])), (h9, .inl (k4, 64, .inl (fun _ => 0))), (h10, .inr (6, [.ref h11, .int 0])), (h11, .inl (k5, 64, .inl (fun _ => 0)))]) [0, 1, 11, 2, 3, 4, 5, 6, 7, 8, 9, 10] (by decide) rfl
    have hK := hK.sub (tys' := [(k0, .object "Rewriterope$Text"), (k1, .byte), (k2, .byte), (k3, .byte), (k4, .byte), (k5, .byte)]) [0, 1, 2, 3, 4, 5] rfl
    have hl := lv_sub hl [0, 1, 3] (show lv_pick [(0, .ref h0), (1, .int rp), (5, .int (-1)), (6, .int l5)] [0, 1, 3] = [(0, .ref h0), (1, .int rp), (6, .int l5)] from rfl)
    exact kx_X3_type_h42 f0_t hR rp_l rp_u l5_l l5_u hx hb hr hml hown hts hlocks hA hS hK hP hD hl
  · have l4_l : (0 : Int) ≤ l4.toInt := r9
    have hR : kz_ct 3 [l5] = R := (kz_ct_g l4_l).symm.trans hR
    refine lv_aload_n hx hb dX3_type_59 rfl (lv_at hl 0 rfl) ?_
    refine va_get (D := (dC, dI)) (ci := 7) (v := .ref h2) (C := RX3) (T := TX3) (N := 9) hx hb hts (by decide +kernel) hown hK hP 0 rfl rfl 3 (by decide) (hts (.fieldLink RX3 32 "Rewriterope" "work" "LRewriterope$Text;") (by decide +kernel)) (fun _ h9 => h9) rfl dX3_type_60 ?_
    refine lv_iload hx hb dX3_type_63 (lv_at hl 2 rfl) ?_
    have hPc := hP.sub (ws' := [(h2, .inr (6, [.ref h3, .int 2])), (h3, .inl (k1, 64, .inl f0))]) [2, 3] rfl
    have hDc := hD.sub (ws' := [(h2, .inr (6, [.ref h3, .int 2])), (h3, .inl (k1, 64, .inl f0))]) [2, 3] (by decide) rfl
    have hKc := hK.sub (tys' := [(k1, .byte)]) [1] rfl
    have hFc := va_free (wc := [(h2, .inr (6, [.ref h3, .int 2])), (h3, .inl (k1, 64, .inl f0))]) hD hS hA [2, 3] rfl
    refine va_callv (va_runV (As := [.int l4]) (rest := []) ⟨hx, hb, hml, hown, hts⟩ (kx_X2_add_10 l dC dI h2 h3 k1 H.size f0 f0_t l4 l4_l l4_u) (cwV 1 hts gX3_type_X2_add rfl rfl rfl (by decide +kernel) ⟨Nat.le_of_ble_eq_true rfl, Nat.le_of_ble_eq_true rfl⟩) ⟨fun a U g mk q => by obtain ⟨q0, q1, qP, qK, qD⟩ := q; exact ⟨q0, q1, qP, va_K.moved (u := U) (U := U.calling g mk a) (Vm.Alike.refl U.vm) qK, qD⟩, va_recv hKc hPc (ci := 6) (q0 := 0) rfl rfl, fun U hU hW => ⟨rfl, by rw [hU], by rw [hU]; exact hPc, va_K.moved hW.alike hKc, hDc.weaken (fun _ _ _ _ => trivial)⟩⟩ rfl rfl hl.1 rfl (lv_room (Nat.le_of_ble_eq_true rfl)) dX3_type_65 ⟨Nat.le_of_ble_eq_true rfl, Nat.le_of_ble_eq_true rfl⟩) hS (fun q _ h => hFc q h) hFc (fun u t H1 locs ht hvm hw hB hz1 hk1 hS => ?_)
    obtain ⟨f101, f101_t, hP1, hK1, hD1⟩ := hB
    rw [ht] at hP1
    have hK1 := va_K.moved hvm.symm hK1
    obtain ⟨hP, hD⟩ := va_join (wr := [(h0, .inr (7, [.ref h1, .ref z0, .ref z1, .ref h2, .ref z2, .ref z3, .int 0, .int 0, .int 0])), (h1, .inl (k0, 4, .inr (.inr (.inr (.inr (va_up (va_up (va_up (va_up (fun _ => none) 0 (some h4)) 1 (some h6)) 2 (some h8)) 3 (some h10))))))), (h4, .inr (6, [.ref h5, .int 0])), (h5, .inl (k2, 64, .inl (fun _ => 0))), (h6, .inr (6, [.ref h7, .int 0])), (h7, .inl (k3, 64, .inl (fun _ => 0))), (h8, .inr (6, [.ref h9, .int 0])), (h9, .inl (k4, 64, .inl (fun _ => 0))), (h10, .inr (6, [.ref h11, .int 0])), (h11, .inl (k5, 64, .inl (fun _ => 0)))]) (w1 := [(h2, .inr (6, [.ref h3, .int 3])), (h3, .inl (k1, 64, .inl f101))]) hP hD [2, 3] [0, 1, 4, 5, 6, 7, 8, 9, 10, 11] rfl rfl (by decide) (by decide) hk1 hFc hP1 hD1
    generalize H1 = H at hP hS ⊢
    have hP : va_P (dC, dI) vwCl [(h0, .inr (7, [.ref h1, .ref z0, .ref z1, .ref h2, .ref z2, .ref z3, .int 0, .int 0, .int 0])), (h1, .inl (k0, 4, .inr (.inr (.inr (.inr (va_up (va_up (va_up (va_up (fun _ => none) 0 (some h4)) 1 (some h6)) 2 (some h8)) 3 (some h10))))))), (h4, .inr (6, [.ref h5, .int 0])), (h5, .inl (k2, 64, .inl (fun _ => 0))), (h6, .inr (6, [.ref h7, .int 0])), (h7, .inl (k3, 64, .inl (fun _ => 0))), (h8, .inr (6, [.ref h9, .int 0])), (h9, .inl (k4, 64, .inl (fun _ => 0))), (h10, .inr (6, [.ref h11, .int 0])), (h11, .inl (k5, 64, .inl (fun _ => 0))), (h2, .inr (6, [.ref h3, .int 3])), (h3, .inl (k1, 64, .inl f101))] H := hP
    have hD : va_D A [(h0, .inr (7, [.ref h1, .ref z0, .ref z1, .ref h2, .ref z2, .ref z3, .int 0, .int 0, .int 0])), (h1, .inl (k0, 4, .inr (.inr (.inr (.inr (va_up (va_up (va_up (va_up (fun _ => none) 0 (some h4)) 1 (some h6)) 2 (some h8)) 3 (some h10))))))), (h4, .inr (6, [.ref h5, .int 0])), (h5, .inl (k2, 64, .inl (fun _ => 0))), (h6, .inr (6, [.ref h7, .int 0])), (h7, .inl (k3, 64, .inl (fun _ => 0))), (h8, .inr (6, [.ref h9, .int 0])), (h9, .inl (k4, 64, .inl (fun _ => 0))), (h10, .inr (6, [.ref h11, .int 0])), (h11, .inl (k5, 64, .inl (fun _ => 0))), (h2, .inr (6, [.ref h3, .int 3])), (h3, .inl (k1, 64, .inl f101))] := hD
    have hP := hP.sub (ws' := [(h0, .inr (7, [.ref h1, .ref z0, .ref z1, .ref h2, .ref z2, .ref z3, .int 0, .int 0, .int 0])), (h1, .inl (k0, 4, .inr (.inr (.inr (.inr (va_up (va_up (va_up (va_up (fun _ => none) 0 (some h4)) 1 (some h6)) 2 (some h8)) 3 (some h10))))))), (h2, .inr (6, [.ref h3, .int 3])), (h3, .inl (k1, 64, .inl f101)), (h4, .inr (6, [.ref h5, .int 0])), (h5, .inl (k2, 64, .inl (fun _ => 0))), (h6, .inr (6, [.ref h7, .int 0])), (h7, .inl (k3, 64, .inl (fun _ => 0))), (h8, .inr (6, [.ref h9, .int 0])), (h9, .inl (k4, 64, .inl (fun _ => 0))), (h10, .inr (6, [.ref h11, .int 0])), (h11, .inl (k5, 64, .inl (fun _ => 0)))]) [0, 1, 10, 11, 2, 3, 4, 5, 6, 7, 8, 9] rfl
    have hD := hD.sub (ws' := [(h0, .inr (7, [.ref h1, .ref z0, .ref z1, .ref h2, .ref z2, .ref z3, .int 0, .int 0, .int 0])), (h1, .inl (k0, 4, .inr (.inr (.inr (.inr (va_up (va_up (va_up (va_up (fun _ => none) 0 (some h4)) 1 (some h6)) 2 (some h8)) 3 (some h10))))))), (h2, .inr (6, [.ref h3, .int 3])), (h3, .inl (k1, 64, .inl f101)), (h4, .inr (6, [.ref h5, .int 0])), (h5, .inl (k2, 64, .inl (fun _ => 0))), (h6, .inr (6, [.ref h7, .int 0])), (h7, .inl (k3, 64, .inl (fun _ => 0))), (h8, .inr (6, [.ref h9, .int 0])), (h9, .inl (k4, 64, .inl (fun _ => 0))), (h10, .inr (6, [.ref h11, .int 0])), (h11, .inl (k5, 64, .inl (fun _ => 0)))]) [0, 1, 10, 11, 2, 3, 4, 5, 6, 7, 8, 9] (by decide) rfl
    have hK := hK.sub (tys' := [(k0, .object "Rewriterope$Text"), (k1, .byte), (k2, .byte), (k3, .byte), (k4, .byte), (k5, .byte)]) [0, 1, 2, 3, 4, 5] rfl
    have hl := lv_sub hl [0, 1, 3] (show lv_pick [(0, .ref h0), (1, .int rp), (5, .int l4), (6, .int l5)] [0, 1, 3] = [(0, .ref h0), (1, .int rp), (6, .int l5)] from rfl)
    exact kx_X3_type_h43 f101_t hR rp_l rp_u l5_l l5_u hx hb hr hml hown hts hlocks hA hS hK hP hD hl
set_option maxHeartbeats 8000000 in
set_option maxRecDepth 100000 in
theorem kx_X3_type_h33 {l : Launch} {dC : Nat → ClassId} {dI : Nat → Nat → Nat} {h0 h1 h2 h3 h4 h5 h6 h7 h8 h9 h10 h11 z0 z1 z2 z3 : Nat} {k0 k1 k2 k3 k4 k5 : ClassId} {rp l4 l5 R : Int32} {p : Program} {e : Env} {s : State} {m : MethodId} {args : Array Value} {below : List Frame} {meth : Method} {c : Code} {A : Nat → Prop} {H : Heap} {locs : List Loc} {ls : Array Slot} {f0 : Nat → Int32} (f0_t : sb_Fit f0) (hR : kz_ct 3 [l4, l5] = R) (rp_l : (0 : Int) ≤ rp.toInt) (rp_u : rp.toInt ≤ (3 : Int)) (l4_l : (-1 : Int) ≤ l4.toInt) (l4_u : l4.toInt ≤ (3 : Int)) (l5_l : (-1 : Int) ≤ l5.toInt) (l5_u : l5.toInt ≤ (3 : Int)) (hx : p.tables.exec = Jvm.exec) (hb : c.code = cX3_type) (hr : meth.sig.returnType = some .int) (hml : c.maxLocals = 8) (hown : s.vm.findClass RX3 = some m.cls) (hts : ∀ w ∈ wsX3_type, w.before args s = true) (hlocks : meth.locks = false) (hA : ∀ q : Nat, s.heap.size ≤ q → A q) (hS : va_S A s.heap H locs) (hK : va_K (dC, dI) vwCl [(k0, .object "Rewriterope$Text"), (k1, .byte), (k2, .byte), (k3, .byte), (k4, .byte), (k5, .byte)] s) (hP : va_P (dC, dI) vwCl [(h0, .inr (7, [.ref h1, .ref z0, .ref z1, .ref h2, .ref z2, .ref z3, .int 0, .int 0, .int 0])), (h1, .inl (k0, 4, .inr (.inr (.inr (.inr (va_up (va_up (va_up (va_up (fun _ => none) 0 (some h4)) 1 (some h6)) 2 (some h8)) 3 (some h10))))))), (h2, .inr (6, [.ref h3, .int 3])), (h3, .inl (k1, 64, .inl f0)), (h4, .inr (6, [.ref h5, .int 0])), (h5, .inl (k2, 64, .inl (fun _ => 0))), (h6, .inr (6, [.ref h7, .int 0])), (h7, .inl (k3, 64, .inl (fun _ => 0))), (h8, .inr (6, [.ref h9, .int 0])), (h9, .inl (k4, 64, .inl (fun _ => 0))), (h10, .inr (6, [.ref h11, .int 0])), (h11, .inl (k5, 64, .inl (fun _ => 0)))] H) (hD : va_D A [(h0, .inr (7, [.ref h1, .ref z0, .ref z1, .ref h2, .ref z2, .ref z3, .int 0, .int 0, .int 0])), (h1, .inl (k0, 4, .inr (.inr (.inr (.inr (va_up (va_up (va_up (va_up (fun _ => none) 0 (some h4)) 1 (some h6)) 2 (some h8)) 3 (some h10))))))), (h2, .inr (6, [.ref h3, .int 3])), (h3, .inl (k1, 64, .inl f0)), (h4, .inr (6, [.ref h5, .int 0])), (h5, .inl (k2, 64, .inl (fun _ => 0))), (h6, .inr (6, [.ref h7, .int 0])), (h7, .inl (k3, 64, .inl (fun _ => 0))), (h8, .inr (6, [.ref h9, .int 0])), (h9, .inl (k4, 64, .inl (fun _ => 0))), (h10, .inr (6, [.ref h11, .int 0])), (h11, .inl (k5, 64, .inl (fun _ => 0)))]) (hl : lv_has ls 8 [(0, .ref h0), (1, .int rp), (5, .int l4), (6, .int l5)]) : W p l e (headSpec wsX3_type ({ frames := 2, cells := 0, slots := 0, locals := 84 })).room s m args below meth c H locs 0 0 (MQ below (va_Qi (fun (r : Int32) (_ : Unit) => r = R) (fun (_ : Unit) (t : State) => va_P (dC, dI) vwCl [(h0, .inr (7, [.ref h1, .ref z0, .ref z1, .ref h2, .ref z2, .ref z3, .int 0, .int 0, .int 0]))] t.heap ∧ va_K (dC, dI) vwCl [(k0, .object "Rewriterope$Text"), (k1, .byte), (k2, .byte), (k3, .byte), (k4, .byte), (k5, .byte)] t ∧ va_D A [(h0, .inr (7, [.ref h1, .ref z0, .ref z1, .ref h2, .ref z2, .ref z3, .int 0, .int 0, .int 0]))]) A) args s 0 0 A) (F0 m 59 ls []) := by
  rcases Int.lt_or_le l4.toInt 0 with r9 | r9
  · obtain rfl : l4 = -1 := Int32.toInt_inj.mp (by rw [show (-1 : Int32).toInt = -1 from by decide]; omega)
    have hR : kz_ct 3 [l5] = R := kz_ct_n.symm.trans hR
    refine lv_aload_n hx hb dX3_type_59 rfl (lv_at hl 0 rfl) ?_
    refine va_get (D := (dC, dI)) (ci := 7) (v := .ref h2) (C := RX3) (T := TX3) (N := 9) hx hb hts (by decide +kernel) hown hK hP 0 rfl rfl 3 (by decide) (hts (.fieldLink RX3 32 "Rewriterope" "work" "LRewriterope$Text;") (by decide +kernel)) (fun _ h9 => h9) rfl dX3_type_60 ?_
    refine lv_iload hx hb dX3_type_63 (lv_at hl 2 rfl) ?_
    have hPc := hP.sub (ws' := [(h2, .inr (6, [.ref h3, .int 3]))]) [2] rfl
    have hDc := hD.sub (ws' := [(h2, .inr (6, [.ref h3, .int 3]))]) [2] (by decide) rfl
    have hKc := hK.sub (tys' := []) [] rfl
    have hFc := va_free (wc := [(h2, .inr (6, [.ref h3, .int 3]))]) hD hS hA [2] rfl
    refine va_callv (va_runV (As := [.int (-1)]) (rest := []) ⟨hx, hb, hml, hown, hts⟩ (kx_X2_add_11 l dC dI h2 h3 H.size) (cwV 1 hts gX3_type_X2_add rfl rfl rfl (by decide +kernel) ⟨Nat.le_of_ble_eq_true rfl, Nat.le_of_ble_eq_true rfl⟩) ⟨fun a U g mk q => by obtain ⟨q0, q1, qP, qK, qD⟩ := q; exact ⟨q0, q1, qP, va_K.moved (u := U) (U := U.calling g mk a) (Vm.Alike.refl U.vm) qK, qD⟩, va_recv hKc hPc (ci := 6) (q0 := 0) rfl rfl, fun U hU hW => ⟨rfl, by rw [hU], by rw [hU]; exact hPc, va_K.moved hW.alike hKc, hDc.weaken (fun _ _ _ _ => trivial)⟩⟩ rfl rfl hl.1 rfl (lv_room (Nat.le_of_ble_eq_true rfl)) dX3_type_65 ⟨Nat.le_of_ble_eq_true rfl, Nat.le_of_ble_eq_true rfl⟩) hS (fun q _ h => hFc q h) hFc (fun u t H1 locs ht hvm hw hB hz1 hk1 hS => ?_)
    obtain ⟨hP1, hK1, hD1⟩ := hB
    rw [ht] at hP1
    have hK1 := va_K.moved hvm.symm hK1
    obtain ⟨hP, hD⟩ := va_join (wr := [(h0, .inr (7, [.ref h1, .ref z0, .ref z1, .ref h2, .ref z2, .ref z3, .int 0, .int 0, .int 0])), (h1, .inl (k0, 4, .inr (.inr (.inr (.inr (va_up (va_up (va_up (va_up (fun _ => none) 0 (some h4)) 1 (some h6)) 2 (some h8)) 3 (some h10))))))), (h3, .inl (k1, 64, .inl f0)), (h4, .inr (6, [.ref h5, .int 0])), (h5, .inl (k2, 64, .inl (fun _ => 0))), (h6, .inr (6, [.ref h7, .int 0])), (h7, .inl (k3, 64, .inl (fun _ => 0))), (h8, .inr (6, [.ref h9, .int 0])), (h9, .inl (k4, 64, .inl (fun _ => 0))), (h10, .inr (6, [.ref h11, .int 0])), (h11, .inl (k5, 64, .inl (fun _ => 0)))]) (w1 := [(h2, .inr (6, [.ref h3, .int 3]))]) hP hD [2] [0, 1, 3, 4, 5, 6, 7, 8, 9, 10, 11] rfl rfl (by decide) (by decide) hk1 hFc hP1 hD1
    generalize H1 = H at hP hS ⊢
    have hP : va_P (dC, dI) vwCl [(h0, .inr (7, [.ref h1, .ref z0, .ref z1, .ref h2, .ref z2, .ref z3, .int 0, .int 0, .int 0])), (h1, .inl (k0, 4, .inr (.inr (.inr (.inr (va_up (va_up (va_up (va_up (fun _ => none) 0 (some h4)) 1 (some h6)) 2 (some h8)) 3 (some h10))))))), (h3, .inl (k1, 64, .inl f0)), (h4, .inr (6, [.ref h5, .int 0])), (h5, .inl (k2, 64, .inl (fun _ => 0))), (h6, .inr (6, [.ref h7, .int 0])), (h7, .inl (k3, 64, .inl (fun _ => 0))), (h8, .inr (6, [.ref h9, .int 0])), (h9, .inl (k4, 64, .inl (fun _ => 0))), (h10, .inr (6, [.ref h11, .int 0])), (h11, .inl (k5, 64, .inl (fun _ => 0))), (h2, .inr (6, [.ref h3, .int 3]))] H := hP
    have hD : va_D A [(h0, .inr (7, [.ref h1, .ref z0, .ref z1, .ref h2, .ref z2, .ref z3, .int 0, .int 0, .int 0])), (h1, .inl (k0, 4, .inr (.inr (.inr (.inr (va_up (va_up (va_up (va_up (fun _ => none) 0 (some h4)) 1 (some h6)) 2 (some h8)) 3 (some h10))))))), (h3, .inl (k1, 64, .inl f0)), (h4, .inr (6, [.ref h5, .int 0])), (h5, .inl (k2, 64, .inl (fun _ => 0))), (h6, .inr (6, [.ref h7, .int 0])), (h7, .inl (k3, 64, .inl (fun _ => 0))), (h8, .inr (6, [.ref h9, .int 0])), (h9, .inl (k4, 64, .inl (fun _ => 0))), (h10, .inr (6, [.ref h11, .int 0])), (h11, .inl (k5, 64, .inl (fun _ => 0))), (h2, .inr (6, [.ref h3, .int 3]))] := hD
    have hP := hP.sub (ws' := [(h0, .inr (7, [.ref h1, .ref z0, .ref z1, .ref h2, .ref z2, .ref z3, .int 0, .int 0, .int 0])), (h1, .inl (k0, 4, .inr (.inr (.inr (.inr (va_up (va_up (va_up (va_up (fun _ => none) 0 (some h4)) 1 (some h6)) 2 (some h8)) 3 (some h10))))))), (h2, .inr (6, [.ref h3, .int 3])), (h3, .inl (k1, 64, .inl f0)), (h4, .inr (6, [.ref h5, .int 0])), (h5, .inl (k2, 64, .inl (fun _ => 0))), (h6, .inr (6, [.ref h7, .int 0])), (h7, .inl (k3, 64, .inl (fun _ => 0))), (h8, .inr (6, [.ref h9, .int 0])), (h9, .inl (k4, 64, .inl (fun _ => 0))), (h10, .inr (6, [.ref h11, .int 0])), (h11, .inl (k5, 64, .inl (fun _ => 0)))]) [0, 1, 11, 2, 3, 4, 5, 6, 7, 8, 9, 10] rfl
    have hD := hD.sub (ws' := [(h0, .inr (7, [.ref h1, .ref z0, .ref z1, .ref h2, .ref z2, .ref z3, .int 0, .int 0, .int 0])), (h1, .inl (k0, 4, .inr (.inr (.inr (.inr (va_up (va_up (va_up (va_up (fun _ => none) 0 (some h4)) 1 (some h6)) 2 (some h8)) 3 (some h10))))))), (h2, .inr (6, [.ref h3, .int 3])), (h3, .inl (k1, 64, .inl f0)), (h4, .inr (6, [.ref h5, .int 0])), (h5, .inl (k2, 64, .inl (fun _ => 0))), (h6, .inr (6, [.ref h7, .int 0])), (h7, .inl (k3, 64, .inl (fun _ => 0))), (h8, .inr (6, [.ref h9, .int 0])), (h9, .inl (k4, 64, .inl (fun _ => 0))), (h10, .inr (6, [.ref h11, .int 0])), (h11, .inl (k5, 64, .inl (fun _ => 0)))]) [0, 1, 11, 2, 3, 4, 5, 6, 7, 8, 9, 10] (by decide) rfl
    have hK := hK.sub (tys' := [(k0, .object "Rewriterope$Text"), (k1, .byte), (k2, .byte), (k3, .byte), (k4, .byte), (k5, .byte)]) [0, 1, 2, 3, 4, 5] rfl
    have hl := lv_sub hl [0, 1, 3] (show lv_pick [(0, .ref h0), (1, .int rp), (5, .int (-1)), (6, .int l5)] [0, 1, 3] = [(0, .ref h0), (1, .int rp), (6, .int l5)] from rfl)
    exact kx_X3_type_h43 f0_t hR rp_l rp_u l5_l l5_u hx hb hr hml hown hts hlocks hA hS hK hP hD hl
  · have l4_l : (0 : Int) ≤ l4.toInt := r9
    have hR : kz_ct 4 [l5] = R := (kz_ct_g l4_l).symm.trans hR
    refine lv_aload_n hx hb dX3_type_59 rfl (lv_at hl 0 rfl) ?_
    refine va_get (D := (dC, dI)) (ci := 7) (v := .ref h2) (C := RX3) (T := TX3) (N := 9) hx hb hts (by decide +kernel) hown hK hP 0 rfl rfl 3 (by decide) (hts (.fieldLink RX3 32 "Rewriterope" "work" "LRewriterope$Text;") (by decide +kernel)) (fun _ h9 => h9) rfl dX3_type_60 ?_
    refine lv_iload hx hb dX3_type_63 (lv_at hl 2 rfl) ?_
    have hPc := hP.sub (ws' := [(h2, .inr (6, [.ref h3, .int 3])), (h3, .inl (k1, 64, .inl f0))]) [2, 3] rfl
    have hDc := hD.sub (ws' := [(h2, .inr (6, [.ref h3, .int 3])), (h3, .inl (k1, 64, .inl f0))]) [2, 3] (by decide) rfl
    have hKc := hK.sub (tys' := [(k1, .byte)]) [1] rfl
    have hFc := va_free (wc := [(h2, .inr (6, [.ref h3, .int 3])), (h3, .inl (k1, 64, .inl f0))]) hD hS hA [2, 3] rfl
    refine va_callv (va_runV (As := [.int l4]) (rest := []) ⟨hx, hb, hml, hown, hts⟩ (kx_X2_add_12 l dC dI h2 h3 k1 H.size f0 f0_t l4 l4_l l4_u) (cwV 1 hts gX3_type_X2_add rfl rfl rfl (by decide +kernel) ⟨Nat.le_of_ble_eq_true rfl, Nat.le_of_ble_eq_true rfl⟩) ⟨fun a U g mk q => by obtain ⟨q0, q1, qP, qK, qD⟩ := q; exact ⟨q0, q1, qP, va_K.moved (u := U) (U := U.calling g mk a) (Vm.Alike.refl U.vm) qK, qD⟩, va_recv hKc hPc (ci := 6) (q0 := 0) rfl rfl, fun U hU hW => ⟨rfl, by rw [hU], by rw [hU]; exact hPc, va_K.moved hW.alike hKc, hDc.weaken (fun _ _ _ _ => trivial)⟩⟩ rfl rfl hl.1 rfl (lv_room (Nat.le_of_ble_eq_true rfl)) dX3_type_65 ⟨Nat.le_of_ble_eq_true rfl, Nat.le_of_ble_eq_true rfl⟩) hS (fun q _ h => hFc q h) hFc (fun u t H1 locs ht hvm hw hB hz1 hk1 hS => ?_)
    obtain ⟨f101, f101_t, hP1, hK1, hD1⟩ := hB
    rw [ht] at hP1
    have hK1 := va_K.moved hvm.symm hK1
    obtain ⟨hP, hD⟩ := va_join (wr := [(h0, .inr (7, [.ref h1, .ref z0, .ref z1, .ref h2, .ref z2, .ref z3, .int 0, .int 0, .int 0])), (h1, .inl (k0, 4, .inr (.inr (.inr (.inr (va_up (va_up (va_up (va_up (fun _ => none) 0 (some h4)) 1 (some h6)) 2 (some h8)) 3 (some h10))))))), (h4, .inr (6, [.ref h5, .int 0])), (h5, .inl (k2, 64, .inl (fun _ => 0))), (h6, .inr (6, [.ref h7, .int 0])), (h7, .inl (k3, 64, .inl (fun _ => 0))), (h8, .inr (6, [.ref h9, .int 0])), (h9, .inl (k4, 64, .inl (fun _ => 0))), (h10, .inr (6, [.ref h11, .int 0])), (h11, .inl (k5, 64, .inl (fun _ => 0)))]) (w1 := [(h2, .inr (6, [.ref h3, .int 4])), (h3, .inl (k1, 64, .inl f101))]) hP hD [2, 3] [0, 1, 4, 5, 6, 7, 8, 9, 10, 11] rfl rfl (by decide) (by decide) hk1 hFc hP1 hD1
    generalize H1 = H at hP hS ⊢
    have hP : va_P (dC, dI) vwCl [(h0, .inr (7, [.ref h1, .ref z0, .ref z1, .ref h2, .ref z2, .ref z3, .int 0, .int 0, .int 0])), (h1, .inl (k0, 4, .inr (.inr (.inr (.inr (va_up (va_up (va_up (va_up (fun _ => none) 0 (some h4)) 1 (some h6)) 2 (some h8)) 3 (some h10))))))), (h4, .inr (6, [.ref h5, .int 0])), (h5, .inl (k2, 64, .inl (fun _ => 0))), (h6, .inr (6, [.ref h7, .int 0])), (h7, .inl (k3, 64, .inl (fun _ => 0))), (h8, .inr (6, [.ref h9, .int 0])), (h9, .inl (k4, 64, .inl (fun _ => 0))), (h10, .inr (6, [.ref h11, .int 0])), (h11, .inl (k5, 64, .inl (fun _ => 0))), (h2, .inr (6, [.ref h3, .int 4])), (h3, .inl (k1, 64, .inl f101))] H := hP
    have hD : va_D A [(h0, .inr (7, [.ref h1, .ref z0, .ref z1, .ref h2, .ref z2, .ref z3, .int 0, .int 0, .int 0])), (h1, .inl (k0, 4, .inr (.inr (.inr (.inr (va_up (va_up (va_up (va_up (fun _ => none) 0 (some h4)) 1 (some h6)) 2 (some h8)) 3 (some h10))))))), (h4, .inr (6, [.ref h5, .int 0])), (h5, .inl (k2, 64, .inl (fun _ => 0))), (h6, .inr (6, [.ref h7, .int 0])), (h7, .inl (k3, 64, .inl (fun _ => 0))), (h8, .inr (6, [.ref h9, .int 0])), (h9, .inl (k4, 64, .inl (fun _ => 0))), (h10, .inr (6, [.ref h11, .int 0])), (h11, .inl (k5, 64, .inl (fun _ => 0))), (h2, .inr (6, [.ref h3, .int 4])), (h3, .inl (k1, 64, .inl f101))] := hD
    have hP := hP.sub (ws' := [(h0, .inr (7, [.ref h1, .ref z0, .ref z1, .ref h2, .ref z2, .ref z3, .int 0, .int 0, .int 0])), (h1, .inl (k0, 4, .inr (.inr (.inr (.inr (va_up (va_up (va_up (va_up (fun _ => none) 0 (some h4)) 1 (some h6)) 2 (some h8)) 3 (some h10))))))), (h2, .inr (6, [.ref h3, .int 4])), (h3, .inl (k1, 64, .inl f101)), (h4, .inr (6, [.ref h5, .int 0])), (h5, .inl (k2, 64, .inl (fun _ => 0))), (h6, .inr (6, [.ref h7, .int 0])), (h7, .inl (k3, 64, .inl (fun _ => 0))), (h8, .inr (6, [.ref h9, .int 0])), (h9, .inl (k4, 64, .inl (fun _ => 0))), (h10, .inr (6, [.ref h11, .int 0])), (h11, .inl (k5, 64, .inl (fun _ => 0)))]) [0, 1, 10, 11, 2, 3, 4, 5, 6, 7, 8, 9] rfl
    have hD := hD.sub (ws' := [(h0, .inr (7, [.ref h1, .ref z0, .ref z1, .ref h2, .ref z2, .ref z3, .int 0, .int 0, .int 0])), (h1, .inl (k0, 4, .inr (.inr (.inr (.inr (va_up (va_up (va_up (va_up (fun _ => none) 0 (some h4)) 1 (some h6)) 2 (some h8)) 3 (some h10))))))), (h2, .inr (6, [.ref h3, .int 4])), (h3, .inl (k1, 64, .inl f101)), (h4, .inr (6, [.ref h5, .int 0])), (h5, .inl (k2, 64, .inl (fun _ => 0))), (h6, .inr (6, [.ref h7, .int 0])), (h7, .inl (k3, 64, .inl (fun _ => 0))), (h8, .inr (6, [.ref h9, .int 0])), (h9, .inl (k4, 64, .inl (fun _ => 0))), (h10, .inr (6, [.ref h11, .int 0])), (h11, .inl (k5, 64, .inl (fun _ => 0)))]) [0, 1, 10, 11, 2, 3, 4, 5, 6, 7, 8, 9] (by decide) rfl
    have hK := hK.sub (tys' := [(k0, .object "Rewriterope$Text"), (k1, .byte), (k2, .byte), (k3, .byte), (k4, .byte), (k5, .byte)]) [0, 1, 2, 3, 4, 5] rfl
    have hl := lv_sub hl [0, 1, 3] (show lv_pick [(0, .ref h0), (1, .int rp), (5, .int l4), (6, .int l5)] [0, 1, 3] = [(0, .ref h0), (1, .int rp), (6, .int l5)] from rfl)
    exact kx_X3_type_h44 f101_t hR rp_l rp_u l5_l l5_u hx hb hr hml hown hts hlocks hA hS hK hP hD hl
set_option maxHeartbeats 8000000 in
set_option maxRecDepth 100000 in
theorem kx_X3_type_h20 {l : Launch} {dC : Nat → ClassId} {dI : Nat → Nat → Nat} {h0 h1 h2 h3 h4 h5 h6 h7 h8 h9 h10 h11 z0 z1 z2 z3 : Nat} {k0 k1 k2 k3 k4 k5 : ClassId} {rp l3 l4 l5 R : Int32} {p : Program} {e : Env} {s : State} {m : MethodId} {args : Array Value} {below : List Frame} {meth : Method} {c : Code} {A : Nat → Prop} {H : Heap} {locs : List Loc} {ls : Array Slot} (hR : kz_ct 0 [l3, l4, l5] = R) (rp_l : (0 : Int) ≤ rp.toInt) (rp_u : rp.toInt ≤ (3 : Int)) (l3_l : (-1 : Int) ≤ l3.toInt) (l3_u : l3.toInt ≤ (3 : Int)) (l4_l : (-1 : Int) ≤ l4.toInt) (l4_u : l4.toInt ≤ (3 : Int)) (l5_l : (-1 : Int) ≤ l5.toInt) (l5_u : l5.toInt ≤ (3 : Int)) (hx : p.tables.exec = Jvm.exec) (hb : c.code = cX3_type) (hr : meth.sig.returnType = some .int) (hml : c.maxLocals = 8) (hown : s.vm.findClass RX3 = some m.cls) (hts : ∀ w ∈ wsX3_type, w.before args s = true) (hlocks : meth.locks = false) (hA : ∀ q : Nat, s.heap.size ≤ q → A q) (hS : va_S A s.heap H locs) (hK : va_K (dC, dI) vwCl [(k0, .object "Rewriterope$Text"), (k1, .byte), (k2, .byte), (k3, .byte), (k4, .byte), (k5, .byte)] s) (hP : va_P (dC, dI) vwCl [(h0, .inr (7, [.ref h1, .ref z0, .ref z1, .ref h2, .ref z2, .ref z3, .int 0, .int 0, .int 0])), (h1, .inl (k0, 4, .inr (.inr (.inr (.inr (va_up (va_up (va_up (va_up (fun _ => none) 0 (some h4)) 1 (some h6)) 2 (some h8)) 3 (some h10))))))), (h2, .inr (6, [.ref h3, .int 0])), (h3, .inl (k1, 64, .inl (fun _ => 0))), (h4, .inr (6, [.ref h5, .int 0])), (h5, .inl (k2, 64, .inl (fun _ => 0))), (h6, .inr (6, [.ref h7, .int 0])), (h7, .inl (k3, 64, .inl (fun _ => 0))), (h8, .inr (6, [.ref h9, .int 0])), (h9, .inl (k4, 64, .inl (fun _ => 0))), (h10, .inr (6, [.ref h11, .int 0])), (h11, .inl (k5, 64, .inl (fun _ => 0)))] H) (hD : va_D A [(h0, .inr (7, [.ref h1, .ref z0, .ref z1, .ref h2, .ref z2, .ref z3, .int 0, .int 0, .int 0])), (h1, .inl (k0, 4, .inr (.inr (.inr (.inr (va_up (va_up (va_up (va_up (fun _ => none) 0 (some h4)) 1 (some h6)) 2 (some h8)) 3 (some h10))))))), (h2, .inr (6, [.ref h3, .int 0])), (h3, .inl (k1, 64, .inl (fun _ => 0))), (h4, .inr (6, [.ref h5, .int 0])), (h5, .inl (k2, 64, .inl (fun _ => 0))), (h6, .inr (6, [.ref h7, .int 0])), (h7, .inl (k3, 64, .inl (fun _ => 0))), (h8, .inr (6, [.ref h9, .int 0])), (h9, .inl (k4, 64, .inl (fun _ => 0))), (h10, .inr (6, [.ref h11, .int 0])), (h11, .inl (k5, 64, .inl (fun _ => 0)))]) (hl : lv_has ls 8 [(0, .ref h0), (1, .int rp), (4, .int l3), (5, .int l4), (6, .int l5)]) : W p l e (headSpec wsX3_type ({ frames := 2, cells := 0, slots := 0, locals := 84 })).room s m args below meth c H locs 0 0 (MQ below (va_Qi (fun (r : Int32) (_ : Unit) => r = R) (fun (_ : Unit) (t : State) => va_P (dC, dI) vwCl [(h0, .inr (7, [.ref h1, .ref z0, .ref z1, .ref h2, .ref z2, .ref z3, .int 0, .int 0, .int 0]))] t.heap ∧ va_K (dC, dI) vwCl [(k0, .object "Rewriterope$Text"), (k1, .byte), (k2, .byte), (k3, .byte), (k4, .byte), (k5, .byte)] t ∧ va_D A [(h0, .inr (7, [.ref h1, .ref z0, .ref z1, .ref h2, .ref z2, .ref z3, .int 0, .int 0, .int 0]))]) A) args s 0 0 A) (F0 m 50 ls []) := by
  rcases Int.lt_or_le l3.toInt 0 with r9 | r9
  · obtain rfl : l3 = -1 := Int32.toInt_inj.mp (by rw [show (-1 : Int32).toInt = -1 from by decide]; omega)
    have hR : kz_ct 0 [l4, l5] = R := kz_ct_n.symm.trans hR
    refine lv_aload_n hx hb dX3_type_50 rfl (lv_at hl 0 rfl) ?_
    refine va_get (D := (dC, dI)) (ci := 7) (v := .ref h2) (C := RX3) (T := TX3) (N := 9) hx hb hts (by decide +kernel) hown hK hP 0 rfl rfl 3 (by decide) (hts (.fieldLink RX3 32 "Rewriterope" "work" "LRewriterope$Text;") (by decide +kernel)) (fun _ h9 => h9) rfl dX3_type_51 ?_
    refine lv_iload hx hb dX3_type_54 (lv_at hl 2 rfl) ?_
    have hPc := hP.sub (ws' := [(h2, .inr (6, [.ref h3, .int 0]))]) [2] rfl
    have hDc := hD.sub (ws' := [(h2, .inr (6, [.ref h3, .int 0]))]) [2] (by decide) rfl
    have hKc := hK.sub (tys' := []) [] rfl
    have hFc := va_free (wc := [(h2, .inr (6, [.ref h3, .int 0]))]) hD hS hA [2] rfl
    refine va_callv (va_runV (As := [.int (-1)]) (rest := []) ⟨hx, hb, hml, hown, hts⟩ (kx_X2_add_5 l dC dI h2 h3 H.size) (cwV 1 hts gX3_type_X2_add rfl rfl rfl (by decide +kernel) ⟨Nat.le_of_ble_eq_true rfl, Nat.le_of_ble_eq_true rfl⟩) ⟨fun a U g mk q => by obtain ⟨q0, q1, qP, qK, qD⟩ := q; exact ⟨q0, q1, qP, va_K.moved (u := U) (U := U.calling g mk a) (Vm.Alike.refl U.vm) qK, qD⟩, va_recv hKc hPc (ci := 6) (q0 := 0) rfl rfl, fun U hU hW => ⟨rfl, by rw [hU], by rw [hU]; exact hPc, va_K.moved hW.alike hKc, hDc.weaken (fun _ _ _ _ => trivial)⟩⟩ rfl rfl hl.1 rfl (lv_room (Nat.le_of_ble_eq_true rfl)) dX3_type_56 ⟨Nat.le_of_ble_eq_true rfl, Nat.le_of_ble_eq_true rfl⟩) hS (fun q _ h => hFc q h) hFc (fun u t H1 locs ht hvm hw hB hz1 hk1 hS => ?_)
    obtain ⟨hP1, hK1, hD1⟩ := hB
    rw [ht] at hP1
    have hK1 := va_K.moved hvm.symm hK1
    obtain ⟨hP, hD⟩ := va_join (wr := [(h0, .inr (7, [.ref h1, .ref z0, .ref z1, .ref h2, .ref z2, .ref z3, .int 0, .int 0, .int 0])), (h1, .inl (k0, 4, .inr (.inr (.inr (.inr (va_up (va_up (va_up (va_up (fun _ => none) 0 (some h4)) 1 (some h6)) 2 (some h8)) 3 (some h10))))))), (h3, .inl (k1, 64, .inl (fun _ => 0))), (h4, .inr (6, [.ref h5, .int 0])), (h5, .inl (k2, 64, .inl (fun _ => 0))), (h6, .inr (6, [.ref h7, .int 0])), (h7, .inl (k3, 64, .inl (fun _ => 0))), (h8, .inr (6, [.ref h9, .int 0])), (h9, .inl (k4, 64, .inl (fun _ => 0))), (h10, .inr (6, [.ref h11, .int 0])), (h11, .inl (k5, 64, .inl (fun _ => 0)))]) (w1 := [(h2, .inr (6, [.ref h3, .int 0]))]) hP hD [2] [0, 1, 3, 4, 5, 6, 7, 8, 9, 10, 11] rfl rfl (by decide) (by decide) hk1 hFc hP1 hD1
    generalize H1 = H at hP hS ⊢
    have hP : va_P (dC, dI) vwCl [(h0, .inr (7, [.ref h1, .ref z0, .ref z1, .ref h2, .ref z2, .ref z3, .int 0, .int 0, .int 0])), (h1, .inl (k0, 4, .inr (.inr (.inr (.inr (va_up (va_up (va_up (va_up (fun _ => none) 0 (some h4)) 1 (some h6)) 2 (some h8)) 3 (some h10))))))), (h3, .inl (k1, 64, .inl (fun _ => 0))), (h4, .inr (6, [.ref h5, .int 0])), (h5, .inl (k2, 64, .inl (fun _ => 0))), (h6, .inr (6, [.ref h7, .int 0])), (h7, .inl (k3, 64, .inl (fun _ => 0))), (h8, .inr (6, [.ref h9, .int 0])), (h9, .inl (k4, 64, .inl (fun _ => 0))), (h10, .inr (6, [.ref h11, .int 0])), (h11, .inl (k5, 64, .inl (fun _ => 0))), (h2, .inr (6, [.ref h3, .int 0]))] H := hP
    have hD : va_D A [(h0, .inr (7, [.ref h1, .ref z0, .ref z1, .ref h2, .ref z2, .ref z3, .int 0, .int 0, .int 0])), (h1, .inl (k0, 4, .inr (.inr (.inr (.inr (va_up (va_up (va_up (va_up (fun _ => none) 0 (some h4)) 1 (some h6)) 2 (some h8)) 3 (some h10))))))), (h3, .inl (k1, 64, .inl (fun _ => 0))), (h4, .inr (6, [.ref h5, .int 0])), (h5, .inl (k2, 64, .inl (fun _ => 0))), (h6, .inr (6, [.ref h7, .int 0])), (h7, .inl (k3, 64, .inl (fun _ => 0))), (h8, .inr (6, [.ref h9, .int 0])), (h9, .inl (k4, 64, .inl (fun _ => 0))), (h10, .inr (6, [.ref h11, .int 0])), (h11, .inl (k5, 64, .inl (fun _ => 0))), (h2, .inr (6, [.ref h3, .int 0]))] := hD
    have hP := hP.sub (ws' := [(h0, .inr (7, [.ref h1, .ref z0, .ref z1, .ref h2, .ref z2, .ref z3, .int 0, .int 0, .int 0])), (h1, .inl (k0, 4, .inr (.inr (.inr (.inr (va_up (va_up (va_up (va_up (fun _ => none) 0 (some h4)) 1 (some h6)) 2 (some h8)) 3 (some h10))))))), (h2, .inr (6, [.ref h3, .int 0])), (h3, .inl (k1, 64, .inl (fun _ => 0))), (h4, .inr (6, [.ref h5, .int 0])), (h5, .inl (k2, 64, .inl (fun _ => 0))), (h6, .inr (6, [.ref h7, .int 0])), (h7, .inl (k3, 64, .inl (fun _ => 0))), (h8, .inr (6, [.ref h9, .int 0])), (h9, .inl (k4, 64, .inl (fun _ => 0))), (h10, .inr (6, [.ref h11, .int 0])), (h11, .inl (k5, 64, .inl (fun _ => 0)))]) [0, 1, 11, 2, 3, 4, 5, 6, 7, 8, 9, 10] rfl
    have hD := hD.sub (ws' := [(h0, .inr (7, [.ref h1, .ref z0, .ref z1, .ref h2, .ref z2, .ref z3, .int 0, .int 0, .int 0])), (h1, .inl (k0, 4, .inr (.inr (.inr (.inr (va_up (va_up (va_up (va_up (fun _ => none) 0 (some h4)) 1 (some h6)) 2 (some h8)) 3 (some h10))))))), (h2, .inr (6, [.ref h3, .int 0])), (h3, .inl (k1, 64, .inl (fun _ => 0))), (h4, .inr (6, [.ref h5, .int 0])), (h5, .inl (k2, 64, .inl (fun _ => 0))), (h6, .inr (6, [.ref h7, .int 0])), (h7, .inl (k3, 64, .inl (fun _ => 0))), (h8, .inr (6, [.ref h9, .int 0])), (h9, .inl (k4, 64, .inl (fun _ => 0))), (h10, .inr (6, [.ref h11, .int 0])), (h11, .inl (k5, 64, .inl (fun _ => 0)))]) [0, 1, 11, 2, 3, 4, 5, 6, 7, 8, 9, 10] (by decide) rfl
    have hK := hK.sub (tys' := [(k0, .object "Rewriterope$Text"), (k1, .byte), (k2, .byte), (k3, .byte), (k4, .byte), (k5, .byte)]) [0, 1, 2, 3, 4, 5] rfl
    have hl := lv_sub hl [0, 1, 3, 4] (show lv_pick [(0, .ref h0), (1, .int rp), (4, .int (-1)), (5, .int l4), (6, .int l5)] [0, 1, 3, 4] = [(0, .ref h0), (1, .int rp), (5, .int l4), (6, .int l5)] from rfl)
    exact kx_X3_type_h30 hR rp_l rp_u l4_l l4_u l5_l l5_u hx hb hr hml hown hts hlocks hA hS hK hP hD hl
  · have l3_l : (0 : Int) ≤ l3.toInt := r9
    have hR : kz_ct 1 [l4, l5] = R := (kz_ct_g l3_l).symm.trans hR
    refine lv_aload_n hx hb dX3_type_50 rfl (lv_at hl 0 rfl) ?_
    refine va_get (D := (dC, dI)) (ci := 7) (v := .ref h2) (C := RX3) (T := TX3) (N := 9) hx hb hts (by decide +kernel) hown hK hP 0 rfl rfl 3 (by decide) (hts (.fieldLink RX3 32 "Rewriterope" "work" "LRewriterope$Text;") (by decide +kernel)) (fun _ h9 => h9) rfl dX3_type_51 ?_
    refine lv_iload hx hb dX3_type_54 (lv_at hl 2 rfl) ?_
    have hPc := hP.sub (ws' := [(h2, .inr (6, [.ref h3, .int 0])), (h3, .inl (k1, 64, .inl (fun _ => 0)))]) [2, 3] rfl
    have hDc := hD.sub (ws' := [(h2, .inr (6, [.ref h3, .int 0])), (h3, .inl (k1, 64, .inl (fun _ => 0)))]) [2, 3] (by decide) rfl
    have hKc := hK.sub (tys' := [(k1, .byte)]) [1] rfl
    have hFc := va_free (wc := [(h2, .inr (6, [.ref h3, .int 0])), (h3, .inl (k1, 64, .inl (fun _ => 0)))]) hD hS hA [2, 3] rfl
    refine va_callv (va_runV (As := [.int l3]) (rest := []) ⟨hx, hb, hml, hown, hts⟩ (kx_X2_add_6 l dC dI h2 h3 k1 H.size l3 l3_l l3_u) (cwV 1 hts gX3_type_X2_add rfl rfl rfl (by decide +kernel) ⟨Nat.le_of_ble_eq_true rfl, Nat.le_of_ble_eq_true rfl⟩) ⟨fun a U g mk q => by obtain ⟨q0, q1, qP, qK, qD⟩ := q; exact ⟨q0, q1, qP, va_K.moved (u := U) (U := U.calling g mk a) (Vm.Alike.refl U.vm) qK, qD⟩, va_recv hKc hPc (ci := 6) (q0 := 0) rfl rfl, fun U hU hW => ⟨rfl, by rw [hU], by rw [hU]; exact hPc, va_K.moved hW.alike hKc, hDc.weaken (fun _ _ _ _ => trivial)⟩⟩ rfl rfl hl.1 rfl (lv_room (Nat.le_of_ble_eq_true rfl)) dX3_type_56 ⟨Nat.le_of_ble_eq_true rfl, Nat.le_of_ble_eq_true rfl⟩) hS (fun q _ h => hFc q h) hFc (fun u t H1 locs ht hvm hw hB hz1 hk1 hS => ?_)
    obtain ⟨f101, f101_t, hP1, hK1, hD1⟩ := hB
    rw [ht] at hP1
    have hK1 := va_K.moved hvm.symm hK1
    obtain ⟨hP, hD⟩ := va_join (wr := [(h0, .inr (7, [.ref h1, .ref z0, .ref z1, .ref h2, .ref z2, .ref z3, .int 0, .int 0, .int 0])), (h1, .inl (k0, 4, .inr (.inr (.inr (.inr (va_up (va_up (va_up (va_up (fun _ => none) 0 (some h4)) 1 (some h6)) 2 (some h8)) 3 (some h10))))))), (h4, .inr (6, [.ref h5, .int 0])), (h5, .inl (k2, 64, .inl (fun _ => 0))), (h6, .inr (6, [.ref h7, .int 0])), (h7, .inl (k3, 64, .inl (fun _ => 0))), (h8, .inr (6, [.ref h9, .int 0])), (h9, .inl (k4, 64, .inl (fun _ => 0))), (h10, .inr (6, [.ref h11, .int 0])), (h11, .inl (k5, 64, .inl (fun _ => 0)))]) (w1 := [(h2, .inr (6, [.ref h3, .int 1])), (h3, .inl (k1, 64, .inl f101))]) hP hD [2, 3] [0, 1, 4, 5, 6, 7, 8, 9, 10, 11] rfl rfl (by decide) (by decide) hk1 hFc hP1 hD1
    generalize H1 = H at hP hS ⊢
    have hP : va_P (dC, dI) vwCl [(h0, .inr (7, [.ref h1, .ref z0, .ref z1, .ref h2, .ref z2, .ref z3, .int 0, .int 0, .int 0])), (h1, .inl (k0, 4, .inr (.inr (.inr (.inr (va_up (va_up (va_up (va_up (fun _ => none) 0 (some h4)) 1 (some h6)) 2 (some h8)) 3 (some h10))))))), (h4, .inr (6, [.ref h5, .int 0])), (h5, .inl (k2, 64, .inl (fun _ => 0))), (h6, .inr (6, [.ref h7, .int 0])), (h7, .inl (k3, 64, .inl (fun _ => 0))), (h8, .inr (6, [.ref h9, .int 0])), (h9, .inl (k4, 64, .inl (fun _ => 0))), (h10, .inr (6, [.ref h11, .int 0])), (h11, .inl (k5, 64, .inl (fun _ => 0))), (h2, .inr (6, [.ref h3, .int 1])), (h3, .inl (k1, 64, .inl f101))] H := hP
    have hD : va_D A [(h0, .inr (7, [.ref h1, .ref z0, .ref z1, .ref h2, .ref z2, .ref z3, .int 0, .int 0, .int 0])), (h1, .inl (k0, 4, .inr (.inr (.inr (.inr (va_up (va_up (va_up (va_up (fun _ => none) 0 (some h4)) 1 (some h6)) 2 (some h8)) 3 (some h10))))))), (h4, .inr (6, [.ref h5, .int 0])), (h5, .inl (k2, 64, .inl (fun _ => 0))), (h6, .inr (6, [.ref h7, .int 0])), (h7, .inl (k3, 64, .inl (fun _ => 0))), (h8, .inr (6, [.ref h9, .int 0])), (h9, .inl (k4, 64, .inl (fun _ => 0))), (h10, .inr (6, [.ref h11, .int 0])), (h11, .inl (k5, 64, .inl (fun _ => 0))), (h2, .inr (6, [.ref h3, .int 1])), (h3, .inl (k1, 64, .inl f101))] := hD
    have hP := hP.sub (ws' := [(h0, .inr (7, [.ref h1, .ref z0, .ref z1, .ref h2, .ref z2, .ref z3, .int 0, .int 0, .int 0])), (h1, .inl (k0, 4, .inr (.inr (.inr (.inr (va_up (va_up (va_up (va_up (fun _ => none) 0 (some h4)) 1 (some h6)) 2 (some h8)) 3 (some h10))))))), (h2, .inr (6, [.ref h3, .int 1])), (h3, .inl (k1, 64, .inl f101)), (h4, .inr (6, [.ref h5, .int 0])), (h5, .inl (k2, 64, .inl (fun _ => 0))), (h6, .inr (6, [.ref h7, .int 0])), (h7, .inl (k3, 64, .inl (fun _ => 0))), (h8, .inr (6, [.ref h9, .int 0])), (h9, .inl (k4, 64, .inl (fun _ => 0))), (h10, .inr (6, [.ref h11, .int 0])), (h11, .inl (k5, 64, .inl (fun _ => 0)))]) [0, 1, 10, 11, 2, 3, 4, 5, 6, 7, 8, 9] rfl
    have hD := hD.sub (ws' := [(h0, .inr (7, [.ref h1, .ref z0, .ref z1, .ref h2, .ref z2, .ref z3, .int 0, .int 0, .int 0])), (h1, .inl (k0, 4, .inr (.inr (.inr (.inr (va_up (va_up (va_up (va_up (fun _ => none) 0 (some h4)) 1 (some h6)) 2 (some h8)) 3 (some h10))))))), (h2, .inr (6, [.ref h3, .int 1])), (h3, .inl (k1, 64, .inl f101)), (h4, .inr (6, [.ref h5, .int 0])), (h5, .inl (k2, 64, .inl (fun _ => 0))), (h6, .inr (6, [.ref h7, .int 0])), (h7, .inl (k3, 64, .inl (fun _ => 0))), (h8, .inr (6, [.ref h9, .int 0])), (h9, .inl (k4, 64, .inl (fun _ => 0))), (h10, .inr (6, [.ref h11, .int 0])), (h11, .inl (k5, 64, .inl (fun _ => 0)))]) [0, 1, 10, 11, 2, 3, 4, 5, 6, 7, 8, 9] (by decide) rfl
    have hK := hK.sub (tys' := [(k0, .object "Rewriterope$Text"), (k1, .byte), (k2, .byte), (k3, .byte), (k4, .byte), (k5, .byte)]) [0, 1, 2, 3, 4, 5] rfl
    have hl := lv_sub hl [0, 1, 3, 4] (show lv_pick [(0, .ref h0), (1, .int rp), (4, .int l3), (5, .int l4), (6, .int l5)] [0, 1, 3, 4] = [(0, .ref h0), (1, .int rp), (5, .int l4), (6, .int l5)] from rfl)
    exact kx_X3_type_h31 f101_t hR rp_l rp_u l4_l l4_u l5_l l5_u hx hb hr hml hown hts hlocks hA hS hK hP hD hl
set_option maxHeartbeats 8000000 in
set_option maxRecDepth 100000 in
theorem kx_X3_type_h21 {l : Launch} {dC : Nat → ClassId} {dI : Nat → Nat → Nat} {h0 h1 h2 h3 h4 h5 h6 h7 h8 h9 h10 h11 z0 z1 z2 z3 : Nat} {k0 k1 k2 k3 k4 k5 : ClassId} {rp l3 l4 l5 R : Int32} {p : Program} {e : Env} {s : State} {m : MethodId} {args : Array Value} {below : List Frame} {meth : Method} {c : Code} {A : Nat → Prop} {H : Heap} {locs : List Loc} {ls : Array Slot} {f0 : Nat → Int32} (f0_t : sb_Fit f0) (hR : kz_ct 1 [l3, l4, l5] = R) (rp_l : (0 : Int) ≤ rp.toInt) (rp_u : rp.toInt ≤ (3 : Int)) (l3_l : (-1 : Int) ≤ l3.toInt) (l3_u : l3.toInt ≤ (3 : Int)) (l4_l : (-1 : Int) ≤ l4.toInt) (l4_u : l4.toInt ≤ (3 : Int)) (l5_l : (-1 : Int) ≤ l5.toInt) (l5_u : l5.toInt ≤ (3 : Int)) (hx : p.tables.exec = Jvm.exec) (hb : c.code = cX3_type) (hr : meth.sig.returnType = some .int) (hml : c.maxLocals = 8) (hown : s.vm.findClass RX3 = some m.cls) (hts : ∀ w ∈ wsX3_type, w.before args s = true) (hlocks : meth.locks = false) (hA : ∀ q : Nat, s.heap.size ≤ q → A q) (hS : va_S A s.heap H locs) (hK : va_K (dC, dI) vwCl [(k0, .object "Rewriterope$Text"), (k1, .byte), (k2, .byte), (k3, .byte), (k4, .byte), (k5, .byte)] s) (hP : va_P (dC, dI) vwCl [(h0, .inr (7, [.ref h1, .ref z0, .ref z1, .ref h2, .ref z2, .ref z3, .int 0, .int 0, .int 0])), (h1, .inl (k0, 4, .inr (.inr (.inr (.inr (va_up (va_up (va_up (va_up (fun _ => none) 0 (some h4)) 1 (some h6)) 2 (some h8)) 3 (some h10))))))), (h2, .inr (6, [.ref h3, .int 1])), (h3, .inl (k1, 64, .inl f0)), (h4, .inr (6, [.ref h5, .int 0])), (h5, .inl (k2, 64, .inl (fun _ => 0))), (h6, .inr (6, [.ref h7, .int 0])), (h7, .inl (k3, 64, .inl (fun _ => 0))), (h8, .inr (6, [.ref h9, .int 0])), (h9, .inl (k4, 64, .inl (fun _ => 0))), (h10, .inr (6, [.ref h11, .int 0])), (h11, .inl (k5, 64, .inl (fun _ => 0)))] H) (hD : va_D A [(h0, .inr (7, [.ref h1, .ref z0, .ref z1, .ref h2, .ref z2, .ref z3, .int 0, .int 0, .int 0])), (h1, .inl (k0, 4, .inr (.inr (.inr (.inr (va_up (va_up (va_up (va_up (fun _ => none) 0 (some h4)) 1 (some h6)) 2 (some h8)) 3 (some h10))))))), (h2, .inr (6, [.ref h3, .int 1])), (h3, .inl (k1, 64, .inl f0)), (h4, .inr (6, [.ref h5, .int 0])), (h5, .inl (k2, 64, .inl (fun _ => 0))), (h6, .inr (6, [.ref h7, .int 0])), (h7, .inl (k3, 64, .inl (fun _ => 0))), (h8, .inr (6, [.ref h9, .int 0])), (h9, .inl (k4, 64, .inl (fun _ => 0))), (h10, .inr (6, [.ref h11, .int 0])), (h11, .inl (k5, 64, .inl (fun _ => 0)))]) (hl : lv_has ls 8 [(0, .ref h0), (1, .int rp), (4, .int l3), (5, .int l4), (6, .int l5)]) : W p l e (headSpec wsX3_type ({ frames := 2, cells := 0, slots := 0, locals := 84 })).room s m args below meth c H locs 0 0 (MQ below (va_Qi (fun (r : Int32) (_ : Unit) => r = R) (fun (_ : Unit) (t : State) => va_P (dC, dI) vwCl [(h0, .inr (7, [.ref h1, .ref z0, .ref z1, .ref h2, .ref z2, .ref z3, .int 0, .int 0, .int 0]))] t.heap ∧ va_K (dC, dI) vwCl [(k0, .object "Rewriterope$Text"), (k1, .byte), (k2, .byte), (k3, .byte), (k4, .byte), (k5, .byte)] t ∧ va_D A [(h0, .inr (7, [.ref h1, .ref z0, .ref z1, .ref h2, .ref z2, .ref z3, .int 0, .int 0, .int 0]))]) A) args s 0 0 A) (F0 m 50 ls []) := by
  rcases Int.lt_or_le l3.toInt 0 with r9 | r9
  · obtain rfl : l3 = -1 := Int32.toInt_inj.mp (by rw [show (-1 : Int32).toInt = -1 from by decide]; omega)
    have hR : kz_ct 1 [l4, l5] = R := kz_ct_n.symm.trans hR
    refine lv_aload_n hx hb dX3_type_50 rfl (lv_at hl 0 rfl) ?_
    refine va_get (D := (dC, dI)) (ci := 7) (v := .ref h2) (C := RX3) (T := TX3) (N := 9) hx hb hts (by decide +kernel) hown hK hP 0 rfl rfl 3 (by decide) (hts (.fieldLink RX3 32 "Rewriterope" "work" "LRewriterope$Text;") (by decide +kernel)) (fun _ h9 => h9) rfl dX3_type_51 ?_
    refine lv_iload hx hb dX3_type_54 (lv_at hl 2 rfl) ?_
    have hPc := hP.sub (ws' := [(h2, .inr (6, [.ref h3, .int 1]))]) [2] rfl
    have hDc := hD.sub (ws' := [(h2, .inr (6, [.ref h3, .int 1]))]) [2] (by decide) rfl
    have hKc := hK.sub (tys' := []) [] rfl
    have hFc := va_free (wc := [(h2, .inr (6, [.ref h3, .int 1]))]) hD hS hA [2] rfl
    refine va_callv (va_runV (As := [.int (-1)]) (rest := []) ⟨hx, hb, hml, hown, hts⟩ (kx_X2_add_7 l dC dI h2 h3 H.size) (cwV 1 hts gX3_type_X2_add rfl rfl rfl (by decide +kernel) ⟨Nat.le_of_ble_eq_true rfl, Nat.le_of_ble_eq_true rfl⟩) ⟨fun a U g mk q => by obtain ⟨q0, q1, qP, qK, qD⟩ := q; exact ⟨q0, q1, qP, va_K.moved (u := U) (U := U.calling g mk a) (Vm.Alike.refl U.vm) qK, qD⟩, va_recv hKc hPc (ci := 6) (q0 := 0) rfl rfl, fun U hU hW => ⟨rfl, by rw [hU], by rw [hU]; exact hPc, va_K.moved hW.alike hKc, hDc.weaken (fun _ _ _ _ => trivial)⟩⟩ rfl rfl hl.1 rfl (lv_room (Nat.le_of_ble_eq_true rfl)) dX3_type_56 ⟨Nat.le_of_ble_eq_true rfl, Nat.le_of_ble_eq_true rfl⟩) hS (fun q _ h => hFc q h) hFc (fun u t H1 locs ht hvm hw hB hz1 hk1 hS => ?_)
    obtain ⟨hP1, hK1, hD1⟩ := hB
    rw [ht] at hP1
    have hK1 := va_K.moved hvm.symm hK1
    obtain ⟨hP, hD⟩ := va_join (wr := [(h0, .inr (7, [.ref h1, .ref z0, .ref z1, .ref h2, .ref z2, .ref z3, .int 0, .int 0, .int 0])), (h1, .inl (k0, 4, .inr (.inr (.inr (.inr (va_up (va_up (va_up (va_up (fun _ => none) 0 (some h4)) 1 (some h6)) 2 (some h8)) 3 (some h10))))))), (h3, .inl (k1, 64, .inl f0)), (h4, .inr (6, [.ref h5, .int 0])), (h5, .inl (k2, 64, .inl (fun _ => 0))), (h6, .inr (6, [.ref h7, .int 0])), (h7, .inl (k3, 64, .inl (fun _ => 0))), (h8, .inr (6, [.ref h9, .int 0])), (h9, .inl (k4, 64, .inl (fun _ => 0))), (h10, .inr (6, [.ref h11, .int 0])), (h11, .inl (k5, 64, .inl (fun _ => 0)))]) (w1 := [(h2, .inr (6, [.ref h3, .int 1]))]) hP hD [2] [0, 1, 3, 4, 5, 6, 7, 8, 9, 10, 11] rfl rfl (by decide) (by decide) hk1 hFc hP1 hD1
    generalize H1 = H at hP hS ⊢
    have hP : va_P (dC, dI) vwCl [(h0, .inr (7, [.ref h1, .ref z0, .ref z1, .ref h2, .ref z2, .ref z3, .int 0, .int 0, .int 0])), (h1, .inl (k0, 4, .inr (.inr (.inr (.inr (va_up (va_up (va_up (va_up (fun _ => none) 0 (some h4)) 1 (some h6)) 2 (some h8)) 3 (some h10))))))), (h3, .inl (k1, 64, .inl f0)), (h4, .inr (6, [.ref h5, .int 0])), (h5, .inl (k2, 64, .inl (fun _ => 0))), (h6, .inr (6, [.ref h7, .int 0])), (h7, .inl (k3, 64, .inl (fun _ => 0))), (h8, .inr (6, [.ref h9, .int 0])), (h9, .inl (k4, 64, .inl (fun _ => 0))), (h10, .inr (6, [.ref h11, .int 0])), (h11, .inl (k5, 64, .inl (fun _ => 0))), (h2, .inr (6, [.ref h3, .int 1]))] H := hP
    have hD : va_D A [(h0, .inr (7, [.ref h1, .ref z0, .ref z1, .ref h2, .ref z2, .ref z3, .int 0, .int 0, .int 0])), (h1, .inl (k0, 4, .inr (.inr (.inr (.inr (va_up (va_up (va_up (va_up (fun _ => none) 0 (some h4)) 1 (some h6)) 2 (some h8)) 3 (some h10))))))), (h3, .inl (k1, 64, .inl f0)), (h4, .inr (6, [.ref h5, .int 0])), (h5, .inl (k2, 64, .inl (fun _ => 0))), (h6, .inr (6, [.ref h7, .int 0])), (h7, .inl (k3, 64, .inl (fun _ => 0))), (h8, .inr (6, [.ref h9, .int 0])), (h9, .inl (k4, 64, .inl (fun _ => 0))), (h10, .inr (6, [.ref h11, .int 0])), (h11, .inl (k5, 64, .inl (fun _ => 0))), (h2, .inr (6, [.ref h3, .int 1]))] := hD
    have hP := hP.sub (ws' := [(h0, .inr (7, [.ref h1, .ref z0, .ref z1, .ref h2, .ref z2, .ref z3, .int 0, .int 0, .int 0])), (h1, .inl (k0, 4, .inr (.inr (.inr (.inr (va_up (va_up (va_up (va_up (fun _ => none) 0 (some h4)) 1 (some h6)) 2 (some h8)) 3 (some h10))))))), (h2, .inr (6, [.ref h3, .int 1])), (h3, .inl (k1, 64, .inl f0)), (h4, .inr (6, [.ref h5, .int 0])), (h5, .inl (k2, 64, .inl (fun _ => 0))), (h6, .inr (6, [.ref h7, .int 0])), (h7, .inl (k3, 64, .inl (fun _ => 0))), (h8, .inr (6, [.ref h9, .int 0])), (h9, .inl (k4, 64, .inl (fun _ => 0))), (h10, .inr (6, [.ref h11, .int 0])), (h11, .inl (k5, 64, .inl (fun _ => 0)))]) [0, 1, 11, 2, 3, 4, 5, 6, 7, 8, 9, 10] rfl
    have hD := hD.sub (ws' := [(h0, .inr (7, [.ref h1, .ref z0, .ref z1, .ref h2, .ref z2, .ref z3, .int 0, .int 0, .int 0])), (h1, .inl (k0, 4, .inr (.inr (.inr (.inr (va_up (va_up (va_up (va_up (fun _ => none) 0 (some h4)) 1 (some h6)) 2 (some h8)) 3 (some h10))))))), (h2, .inr (6, [.ref h3, .int 1])), (h3, .inl (k1, 64, .inl f0)), (h4, .inr (6, [.ref h5, .int 0])), (h5, .inl (k2, 64, .inl (fun _ => 0))), (h6, .inr (6, [.ref h7, .int 0])), (h7, .inl (k3, 64, .inl (fun _ => 0))), (h8, .inr (6, [.ref h9, .int 0])), (h9, .inl (k4, 64, .inl (fun _ => 0))), (h10, .inr (6, [.ref h11, .int 0])), (h11, .inl (k5, 64, .inl (fun _ => 0)))]) [0, 1, 11, 2, 3, 4, 5, 6, 7, 8, 9, 10] (by decide) rfl
    have hK := hK.sub (tys' := [(k0, .object "Rewriterope$Text"), (k1, .byte), (k2, .byte), (k3, .byte), (k4, .byte), (k5, .byte)]) [0, 1, 2, 3, 4, 5] rfl
    have hl := lv_sub hl [0, 1, 3, 4] (show lv_pick [(0, .ref h0), (1, .int rp), (4, .int (-1)), (5, .int l4), (6, .int l5)] [0, 1, 3, 4] = [(0, .ref h0), (1, .int rp), (5, .int l4), (6, .int l5)] from rfl)
    exact kx_X3_type_h31 f0_t hR rp_l rp_u l4_l l4_u l5_l l5_u hx hb hr hml hown hts hlocks hA hS hK hP hD hl
  · have l3_l : (0 : Int) ≤ l3.toInt := r9
    have hR : kz_ct 2 [l4, l5] = R := (kz_ct_g l3_l).symm.trans hR
    refine lv_aload_n hx hb dX3_type_50 rfl (lv_at hl 0 rfl) ?_
    refine va_get (D := (dC, dI)) (ci := 7) (v := .ref h2) (C := RX3) (T := TX3) (N := 9) hx hb hts (by decide +kernel) hown hK hP 0 rfl rfl 3 (by decide) (hts (.fieldLink RX3 32 "Rewriterope" "work" "LRewriterope$Text;") (by decide +kernel)) (fun _ h9 => h9) rfl dX3_type_51 ?_
    refine lv_iload hx hb dX3_type_54 (lv_at hl 2 rfl) ?_
    have hPc := hP.sub (ws' := [(h2, .inr (6, [.ref h3, .int 1])), (h3, .inl (k1, 64, .inl f0))]) [2, 3] rfl
    have hDc := hD.sub (ws' := [(h2, .inr (6, [.ref h3, .int 1])), (h3, .inl (k1, 64, .inl f0))]) [2, 3] (by decide) rfl
    have hKc := hK.sub (tys' := [(k1, .byte)]) [1] rfl
    have hFc := va_free (wc := [(h2, .inr (6, [.ref h3, .int 1])), (h3, .inl (k1, 64, .inl f0))]) hD hS hA [2, 3] rfl
    refine va_callv (va_runV (As := [.int l3]) (rest := []) ⟨hx, hb, hml, hown, hts⟩ (kx_X2_add_8 l dC dI h2 h3 k1 H.size f0 f0_t l3 l3_l l3_u) (cwV 1 hts gX3_type_X2_add rfl rfl rfl (by decide +kernel) ⟨Nat.le_of_ble_eq_true rfl, Nat.le_of_ble_eq_true rfl⟩) ⟨fun a U g mk q => by obtain ⟨q0, q1, qP, qK, qD⟩ := q; exact ⟨q0, q1, qP, va_K.moved (u := U) (U := U.calling g mk a) (Vm.Alike.refl U.vm) qK, qD⟩, va_recv hKc hPc (ci := 6) (q0 := 0) rfl rfl, fun U hU hW => ⟨rfl, by rw [hU], by rw [hU]; exact hPc, va_K.moved hW.alike hKc, hDc.weaken (fun _ _ _ _ => trivial)⟩⟩ rfl rfl hl.1 rfl (lv_room (Nat.le_of_ble_eq_true rfl)) dX3_type_56 ⟨Nat.le_of_ble_eq_true rfl, Nat.le_of_ble_eq_true rfl⟩) hS (fun q _ h => hFc q h) hFc (fun u t H1 locs ht hvm hw hB hz1 hk1 hS => ?_)
    obtain ⟨f101, f101_t, hP1, hK1, hD1⟩ := hB
    rw [ht] at hP1
    have hK1 := va_K.moved hvm.symm hK1
    obtain ⟨hP, hD⟩ := va_join (wr := [(h0, .inr (7, [.ref h1, .ref z0, .ref z1, .ref h2, .ref z2, .ref z3, .int 0, .int 0, .int 0])), (h1, .inl (k0, 4, .inr (.inr (.inr (.inr (va_up (va_up (va_up (va_up (fun _ => none) 0 (some h4)) 1 (some h6)) 2 (some h8)) 3 (some h10))))))), (h4, .inr (6, [.ref h5, .int 0])), (h5, .inl (k2, 64, .inl (fun _ => 0))), (h6, .inr (6, [.ref h7, .int 0])), (h7, .inl (k3, 64, .inl (fun _ => 0))), (h8, .inr (6, [.ref h9, .int 0])), (h9, .inl (k4, 64, .inl (fun _ => 0))), (h10, .inr (6, [.ref h11, .int 0])), (h11, .inl (k5, 64, .inl (fun _ => 0)))]) (w1 := [(h2, .inr (6, [.ref h3, .int 2])), (h3, .inl (k1, 64, .inl f101))]) hP hD [2, 3] [0, 1, 4, 5, 6, 7, 8, 9, 10, 11] rfl rfl (by decide) (by decide) hk1 hFc hP1 hD1
    generalize H1 = H at hP hS ⊢
    have hP : va_P (dC, dI) vwCl [(h0, .inr (7, [.ref h1, .ref z0, .ref z1, .ref h2, .ref z2, .ref z3, .int 0, .int 0, .int 0])), (h1, .inl (k0, 4, .inr (.inr (.inr (.inr (va_up (va_up (va_up (va_up (fun _ => none) 0 (some h4)) 1 (some h6)) 2 (some h8)) 3 (some h10))))))), (h4, .inr (6, [.ref h5, .int 0])), (h5, .inl (k2, 64, .inl (fun _ => 0))), (h6, .inr (6, [.ref h7, .int 0])), (h7, .inl (k3, 64, .inl (fun _ => 0))), (h8, .inr (6, [.ref h9, .int 0])), (h9, .inl (k4, 64, .inl (fun _ => 0))), (h10, .inr (6, [.ref h11, .int 0])), (h11, .inl (k5, 64, .inl (fun _ => 0))), (h2, .inr (6, [.ref h3, .int 2])), (h3, .inl (k1, 64, .inl f101))] H := hP
    have hD : va_D A [(h0, .inr (7, [.ref h1, .ref z0, .ref z1, .ref h2, .ref z2, .ref z3, .int 0, .int 0, .int 0])), (h1, .inl (k0, 4, .inr (.inr (.inr (.inr (va_up (va_up (va_up (va_up (fun _ => none) 0 (some h4)) 1 (some h6)) 2 (some h8)) 3 (some h10))))))), (h4, .inr (6, [.ref h5, .int 0])), (h5, .inl (k2, 64, .inl (fun _ => 0))), (h6, .inr (6, [.ref h7, .int 0])), (h7, .inl (k3, 64, .inl (fun _ => 0))), (h8, .inr (6, [.ref h9, .int 0])), (h9, .inl (k4, 64, .inl (fun _ => 0))), (h10, .inr (6, [.ref h11, .int 0])), (h11, .inl (k5, 64, .inl (fun _ => 0))), (h2, .inr (6, [.ref h3, .int 2])), (h3, .inl (k1, 64, .inl f101))] := hD
    have hP := hP.sub (ws' := [(h0, .inr (7, [.ref h1, .ref z0, .ref z1, .ref h2, .ref z2, .ref z3, .int 0, .int 0, .int 0])), (h1, .inl (k0, 4, .inr (.inr (.inr (.inr (va_up (va_up (va_up (va_up (fun _ => none) 0 (some h4)) 1 (some h6)) 2 (some h8)) 3 (some h10))))))), (h2, .inr (6, [.ref h3, .int 2])), (h3, .inl (k1, 64, .inl f101)), (h4, .inr (6, [.ref h5, .int 0])), (h5, .inl (k2, 64, .inl (fun _ => 0))), (h6, .inr (6, [.ref h7, .int 0])), (h7, .inl (k3, 64, .inl (fun _ => 0))), (h8, .inr (6, [.ref h9, .int 0])), (h9, .inl (k4, 64, .inl (fun _ => 0))), (h10, .inr (6, [.ref h11, .int 0])), (h11, .inl (k5, 64, .inl (fun _ => 0)))]) [0, 1, 10, 11, 2, 3, 4, 5, 6, 7, 8, 9] rfl
    have hD := hD.sub (ws' := [(h0, .inr (7, [.ref h1, .ref z0, .ref z1, .ref h2, .ref z2, .ref z3, .int 0, .int 0, .int 0])), (h1, .inl (k0, 4, .inr (.inr (.inr (.inr (va_up (va_up (va_up (va_up (fun _ => none) 0 (some h4)) 1 (some h6)) 2 (some h8)) 3 (some h10))))))), (h2, .inr (6, [.ref h3, .int 2])), (h3, .inl (k1, 64, .inl f101)), (h4, .inr (6, [.ref h5, .int 0])), (h5, .inl (k2, 64, .inl (fun _ => 0))), (h6, .inr (6, [.ref h7, .int 0])), (h7, .inl (k3, 64, .inl (fun _ => 0))), (h8, .inr (6, [.ref h9, .int 0])), (h9, .inl (k4, 64, .inl (fun _ => 0))), (h10, .inr (6, [.ref h11, .int 0])), (h11, .inl (k5, 64, .inl (fun _ => 0)))]) [0, 1, 10, 11, 2, 3, 4, 5, 6, 7, 8, 9] (by decide) rfl
    have hK := hK.sub (tys' := [(k0, .object "Rewriterope$Text"), (k1, .byte), (k2, .byte), (k3, .byte), (k4, .byte), (k5, .byte)]) [0, 1, 2, 3, 4, 5] rfl
    have hl := lv_sub hl [0, 1, 3, 4] (show lv_pick [(0, .ref h0), (1, .int rp), (4, .int l3), (5, .int l4), (6, .int l5)] [0, 1, 3, 4] = [(0, .ref h0), (1, .int rp), (5, .int l4), (6, .int l5)] from rfl)
    exact kx_X3_type_h32 f101_t hR rp_l rp_u l4_l l4_u l5_l l5_u hx hb hr hml hown hts hlocks hA hS hK hP hD hl
set_option maxHeartbeats 8000000 in
set_option maxRecDepth 100000 in
theorem kx_X3_type_h22 {l : Launch} {dC : Nat → ClassId} {dI : Nat → Nat → Nat} {h0 h1 h2 h3 h4 h5 h6 h7 h8 h9 h10 h11 z0 z1 z2 z3 : Nat} {k0 k1 k2 k3 k4 k5 : ClassId} {rp l3 l4 l5 R : Int32} {p : Program} {e : Env} {s : State} {m : MethodId} {args : Array Value} {below : List Frame} {meth : Method} {c : Code} {A : Nat → Prop} {H : Heap} {locs : List Loc} {ls : Array Slot} {f0 : Nat → Int32} (f0_t : sb_Fit f0) (hR : kz_ct 2 [l3, l4, l5] = R) (rp_l : (0 : Int) ≤ rp.toInt) (rp_u : rp.toInt ≤ (3 : Int)) (l3_l : (-1 : Int) ≤ l3.toInt) (l3_u : l3.toInt ≤ (3 : Int)) (l4_l : (-1 : Int) ≤ l4.toInt) (l4_u : l4.toInt ≤ (3 : Int)) (l5_l : (-1 : Int) ≤ l5.toInt) (l5_u : l5.toInt ≤ (3 : Int)) (hx : p.tables.exec = Jvm.exec) (hb : c.code = cX3_type) (hr : meth.sig.returnType = some .int) (hml : c.maxLocals = 8) (hown : s.vm.findClass RX3 = some m.cls) (hts : ∀ w ∈ wsX3_type, w.before args s = true) (hlocks : meth.locks = false) (hA : ∀ q : Nat, s.heap.size ≤ q → A q) (hS : va_S A s.heap H locs) (hK : va_K (dC, dI) vwCl [(k0, .object "Rewriterope$Text"), (k1, .byte), (k2, .byte), (k3, .byte), (k4, .byte), (k5, .byte)] s) (hP : va_P (dC, dI) vwCl [(h0, .inr (7, [.ref h1, .ref z0, .ref z1, .ref h2, .ref z2, .ref z3, .int 0, .int 0, .int 0])), (h1, .inl (k0, 4, .inr (.inr (.inr (.inr (va_up (va_up (va_up (va_up (fun _ => none) 0 (some h4)) 1 (some h6)) 2 (some h8)) 3 (some h10))))))), (h2, .inr (6, [.ref h3, .int 2])), (h3, .inl (k1, 64, .inl f0)), (h4, .inr (6, [.ref h5, .int 0])), (h5, .inl (k2, 64, .inl (fun _ => 0))), (h6, .inr (6, [.ref h7, .int 0])), (h7, .inl (k3, 64, .inl (fun _ => 0))), (h8, .inr (6, [.ref h9, .int 0])), (h9, .inl (k4, 64, .inl (fun _ => 0))), (h10, .inr (6, [.ref h11, .int 0])), (h11, .inl (k5, 64, .inl (fun _ => 0)))] H) (hD : va_D A [(h0, .inr (7, [.ref h1, .ref z0, .ref z1, .ref h2, .ref z2, .ref z3, .int 0, .int 0, .int 0])), (h1, .inl (k0, 4, .inr (.inr (.inr (.inr (va_up (va_up (va_up (va_up (fun _ => none) 0 (some h4)) 1 (some h6)) 2 (some h8)) 3 (some h10))))))), (h2, .inr (6, [.ref h3, .int 2])), (h3, .inl (k1, 64, .inl f0)), (h4, .inr (6, [.ref h5, .int 0])), (h5, .inl (k2, 64, .inl (fun _ => 0))), (h6, .inr (6, [.ref h7, .int 0])), (h7, .inl (k3, 64, .inl (fun _ => 0))), (h8, .inr (6, [.ref h9, .int 0])), (h9, .inl (k4, 64, .inl (fun _ => 0))), (h10, .inr (6, [.ref h11, .int 0])), (h11, .inl (k5, 64, .inl (fun _ => 0)))]) (hl : lv_has ls 8 [(0, .ref h0), (1, .int rp), (4, .int l3), (5, .int l4), (6, .int l5)]) : W p l e (headSpec wsX3_type ({ frames := 2, cells := 0, slots := 0, locals := 84 })).room s m args below meth c H locs 0 0 (MQ below (va_Qi (fun (r : Int32) (_ : Unit) => r = R) (fun (_ : Unit) (t : State) => va_P (dC, dI) vwCl [(h0, .inr (7, [.ref h1, .ref z0, .ref z1, .ref h2, .ref z2, .ref z3, .int 0, .int 0, .int 0]))] t.heap ∧ va_K (dC, dI) vwCl [(k0, .object "Rewriterope$Text"), (k1, .byte), (k2, .byte), (k3, .byte), (k4, .byte), (k5, .byte)] t ∧ va_D A [(h0, .inr (7, [.ref h1, .ref z0, .ref z1, .ref h2, .ref z2, .ref z3, .int 0, .int 0, .int 0]))]) A) args s 0 0 A) (F0 m 50 ls []) := by
  rcases Int.lt_or_le l3.toInt 0 with r9 | r9
  · obtain rfl : l3 = -1 := Int32.toInt_inj.mp (by rw [show (-1 : Int32).toInt = -1 from by decide]; omega)
    have hR : kz_ct 2 [l4, l5] = R := kz_ct_n.symm.trans hR
    refine lv_aload_n hx hb dX3_type_50 rfl (lv_at hl 0 rfl) ?_
    refine va_get (D := (dC, dI)) (ci := 7) (v := .ref h2) (C := RX3) (T := TX3) (N := 9) hx hb hts (by decide +kernel) hown hK hP 0 rfl rfl 3 (by decide) (hts (.fieldLink RX3 32 "Rewriterope" "work" "LRewriterope$Text;") (by decide +kernel)) (fun _ h9 => h9) rfl dX3_type_51 ?_
    refine lv_iload hx hb dX3_type_54 (lv_at hl 2 rfl) ?_
    have hPc := hP.sub (ws' := [(h2, .inr (6, [.ref h3, .int 2]))]) [2] rfl
    have hDc := hD.sub (ws' := [(h2, .inr (6, [.ref h3, .int 2]))]) [2] (by decide) rfl
    have hKc := hK.sub (tys' := []) [] rfl
    have hFc := va_free (wc := [(h2, .inr (6, [.ref h3, .int 2]))]) hD hS hA [2] rfl
    refine va_callv (va_runV (As := [.int (-1)]) (rest := []) ⟨hx, hb, hml, hown, hts⟩ (kx_X2_add_9 l dC dI h2 h3 H.size) (cwV 1 hts gX3_type_X2_add rfl rfl rfl (by decide +kernel) ⟨Nat.le_of_ble_eq_true rfl, Nat.le_of_ble_eq_true rfl⟩) ⟨fun a U g mk q => by obtain ⟨q0, q1, qP, qK, qD⟩ := q; exact ⟨q0, q1, qP, va_K.moved (u := U) (U := U.calling g mk a) (Vm.Alike.refl U.vm) qK, qD⟩, va_recv hKc hPc (ci := 6) (q0 := 0) rfl rfl, fun U hU hW => ⟨rfl, by rw [hU], by rw [hU]; exact hPc, va_K.moved hW.alike hKc, hDc.weaken (fun _ _ _ _ => trivial)⟩⟩ rfl rfl hl.1 rfl (lv_room (Nat.le_of_ble_eq_true rfl)) dX3_type_56 ⟨Nat.le_of_ble_eq_true rfl, Nat.le_of_ble_eq_true rfl⟩) hS (fun q _ h => hFc q h) hFc (fun u t H1 locs ht hvm hw hB hz1 hk1 hS => ?_)
    obtain ⟨hP1, hK1, hD1⟩ := hB
    rw [ht] at hP1
    have hK1 := va_K.moved hvm.symm hK1
    obtain ⟨hP, hD⟩ := va_join (wr := [(h0, .inr (7, [.ref h1, .ref z0, .ref z1, .ref h2, .ref z2, .ref z3, .int 0, .int 0, .int 0])), (h1, .inl (k0, 4, .inr (.inr (.inr (.inr (va_up (va_up (va_up (va_up (fun _ => none) 0 (some h4)) 1 (some h6)) 2 (some h8)) 3 (some h10))))))), (h3, .inl (k1, 64, .inl f0)), (h4, .inr (6, [.ref h5, .int 0])), (h5, .inl (k2, 64, .inl (fun _ => 0))), (h6, .inr (6, [.ref h7, .int 0])), (h7, .inl (k3, 64, .inl (fun _ => 0))), (h8, .inr (6, [.ref h9, .int 0])), (h9, .inl (k4, 64, .inl (fun _ => 0))), (h10, .inr (6, [.ref h11, .int 0])), (h11, .inl (k5, 64, .inl (fun _ => 0)))]) (w1 := [(h2, .inr (6, [.ref h3, .int 2]))]) hP hD [2] [0, 1, 3, 4, 5, 6, 7, 8, 9, 10, 11] rfl rfl (by decide) (by decide) hk1 hFc hP1 hD1
    generalize H1 = H at hP hS ⊢
    have hP : va_P (dC, dI) vwCl [(h0, .inr (7, [.ref h1, .ref z0, .ref z1, .ref h2, .ref z2, .ref z3, .int 0, .int 0, .int 0])), (h1, .inl (k0, 4, .inr (.inr (.inr (.inr (va_up (va_up (va_up (va_up (fun _ => none) 0 (some h4)) 1 (some h6)) 2 (some h8)) 3 (some h10))))))), (h3, .inl (k1, 64, .inl f0)), (h4, .inr (6, [.ref h5, .int 0])), (h5, .inl (k2, 64, .inl (fun _ => 0))), (h6, .inr (6, [.ref h7, .int 0])), (h7, .inl (k3, 64, .inl (fun _ => 0))), (h8, .inr (6, [.ref h9, .int 0])), (h9, .inl (k4, 64, .inl (fun _ => 0))), (h10, .inr (6, [.ref h11, .int 0])), (h11, .inl (k5, 64, .inl (fun _ => 0))), (h2, .inr (6, [.ref h3, .int 2]))] H := hP
    have hD : va_D A [(h0, .inr (7, [.ref h1, .ref z0, .ref z1, .ref h2, .ref z2, .ref z3, .int 0, .int 0, .int 0])), (h1, .inl (k0, 4, .inr (.inr (.inr (.inr (va_up (va_up (va_up (va_up (fun _ => none) 0 (some h4)) 1 (some h6)) 2 (some h8)) 3 (some h10))))))), (h3, .inl (k1, 64, .inl f0)), (h4, .inr (6, [.ref h5, .int 0])), (h5, .inl (k2, 64, .inl (fun _ => 0))), (h6, .inr (6, [.ref h7, .int 0])), (h7, .inl (k3, 64, .inl (fun _ => 0))), (h8, .inr (6, [.ref h9, .int 0])), (h9, .inl (k4, 64, .inl (fun _ => 0))), (h10, .inr (6, [.ref h11, .int 0])), (h11, .inl (k5, 64, .inl (fun _ => 0))), (h2, .inr (6, [.ref h3, .int 2]))] := hD
    have hP := hP.sub (ws' := [(h0, .inr (7, [.ref h1, .ref z0, .ref z1, .ref h2, .ref z2, .ref z3, .int 0, .int 0, .int 0])), (h1, .inl (k0, 4, .inr (.inr (.inr (.inr (va_up (va_up (va_up (va_up (fun _ => none) 0 (some h4)) 1 (some h6)) 2 (some h8)) 3 (some h10))))))), (h2, .inr (6, [.ref h3, .int 2])), (h3, .inl (k1, 64, .inl f0)), (h4, .inr (6, [.ref h5, .int 0])), (h5, .inl (k2, 64, .inl (fun _ => 0))), (h6, .inr (6, [.ref h7, .int 0])), (h7, .inl (k3, 64, .inl (fun _ => 0))), (h8, .inr (6, [.ref h9, .int 0])), (h9, .inl (k4, 64, .inl (fun _ => 0))), (h10, .inr (6, [.ref h11, .int 0])), (h11, .inl (k5, 64, .inl (fun _ => 0)))]) [0, 1, 11, 2, 3, 4, 5, 6, 7, 8, 9, 10] rfl
    have hD := hD.sub (ws' := [(h0, .inr (7, [.ref h1, .ref z0, .ref z1, .ref h2, .ref z2, .ref z3, .int 0, .int 0, .int 0])), (h1, .inl (k0, 4, .inr (.inr (.inr (.inr (va_up (va_up (va_up (va_up (fun _ => none) 0 (some h4)) 1 (some h6)) 2 (some h8)) 3 (some h10))))))), (h2, .inr (6, [.ref h3, .int 2])), (h3, .inl (k1, 64, .inl f0)), (h4, .inr (6, [.ref h5, .int 0])), (h5, .inl (k2, 64, .inl (fun _ => 0))), (h6, .inr (6, [.ref h7, .int 0])), (h7, .inl (k3, 64, .inl (fun _ => 0))), (h8, .inr (6, [.ref h9, .int 0])), (h9, .inl (k4, 64, .inl (fun _ => 0))), (h10, .inr (6, [.ref h11, .int 0])), (h11, .inl (k5, 64, .inl (fun _ => 0)))]) [0, 1, 11, 2, 3, 4, 5, 6, 7, 8, 9, 10] (by decide) rfl
    have hK := hK.sub (tys' := [(k0, .object "Rewriterope$Text"), (k1, .byte), (k2, .byte), (k3, .byte), (k4, .byte), (k5, .byte)]) [0, 1, 2, 3, 4, 5] rfl
    have hl := lv_sub hl [0, 1, 3, 4] (show lv_pick [(0, .ref h0), (1, .int rp), (4, .int (-1)), (5, .int l4), (6, .int l5)] [0, 1, 3, 4] = [(0, .ref h0), (1, .int rp), (5, .int l4), (6, .int l5)] from rfl)
    exact kx_X3_type_h32 f0_t hR rp_l rp_u l4_l l4_u l5_l l5_u hx hb hr hml hown hts hlocks hA hS hK hP hD hl
  · have l3_l : (0 : Int) ≤ l3.toInt := r9
    have hR : kz_ct 3 [l4, l5] = R := (kz_ct_g l3_l).symm.trans hR
    refine lv_aload_n hx hb dX3_type_50 rfl (lv_at hl 0 rfl) ?_
    refine va_get (D := (dC, dI)) (ci := 7) (v := .ref h2) (C := RX3) (T := TX3) (N := 9) hx hb hts (by decide +kernel) hown hK hP 0 rfl rfl 3 (by decide) (hts (.fieldLink RX3 32 "Rewriterope" "work" "LRewriterope$Text;") (by decide +kernel)) (fun _ h9 => h9) rfl dX3_type_51 ?_
    refine lv_iload hx hb dX3_type_54 (lv_at hl 2 rfl) ?_
    have hPc := hP.sub (ws' := [(h2, .inr (6, [.ref h3, .int 2])), (h3, .inl (k1, 64, .inl f0))]) [2, 3] rfl
    have hDc := hD.sub (ws' := [(h2, .inr (6, [.ref h3, .int 2])), (h3, .inl (k1, 64, .inl f0))]) [2, 3] (by decide) rfl
    have hKc := hK.sub (tys' := [(k1, .byte)]) [1] rfl
    have hFc := va_free (wc := [(h2, .inr (6, [.ref h3, .int 2])), (h3, .inl (k1, 64, .inl f0))]) hD hS hA [2, 3] rfl
    refine va_callv (va_runV (As := [.int l3]) (rest := []) ⟨hx, hb, hml, hown, hts⟩ (kx_X2_add_10 l dC dI h2 h3 k1 H.size f0 f0_t l3 l3_l l3_u) (cwV 1 hts gX3_type_X2_add rfl rfl rfl (by decide +kernel) ⟨Nat.le_of_ble_eq_true rfl, Nat.le_of_ble_eq_true rfl⟩) ⟨fun a U g mk q => by obtain ⟨q0, q1, qP, qK, qD⟩ := q; exact ⟨q0, q1, qP, va_K.moved (u := U) (U := U.calling g mk a) (Vm.Alike.refl U.vm) qK, qD⟩, va_recv hKc hPc (ci := 6) (q0 := 0) rfl rfl, fun U hU hW => ⟨rfl, by rw [hU], by rw [hU]; exact hPc, va_K.moved hW.alike hKc, hDc.weaken (fun _ _ _ _ => trivial)⟩⟩ rfl rfl hl.1 rfl (lv_room (Nat.le_of_ble_eq_true rfl)) dX3_type_56 ⟨Nat.le_of_ble_eq_true rfl, Nat.le_of_ble_eq_true rfl⟩) hS (fun q _ h => hFc q h) hFc (fun u t H1 locs ht hvm hw hB hz1 hk1 hS => ?_)
    obtain ⟨f101, f101_t, hP1, hK1, hD1⟩ := hB
    rw [ht] at hP1
    have hK1 := va_K.moved hvm.symm hK1
    obtain ⟨hP, hD⟩ := va_join (wr := [(h0, .inr (7, [.ref h1, .ref z0, .ref z1, .ref h2, .ref z2, .ref z3, .int 0, .int 0, .int 0])), (h1, .inl (k0, 4, .inr (.inr (.inr (.inr (va_up (va_up (va_up (va_up (fun _ => none) 0 (some h4)) 1 (some h6)) 2 (some h8)) 3 (some h10))))))), (h4, .inr (6, [.ref h5, .int 0])), (h5, .inl (k2, 64, .inl (fun _ => 0))), (h6, .inr (6, [.ref h7, .int 0])), (h7, .inl (k3, 64, .inl (fun _ => 0))), (h8, .inr (6, [.ref h9, .int 0])), (h9, .inl (k4, 64, .inl (fun _ => 0))), (h10, .inr (6, [.ref h11, .int 0])), (h11, .inl (k5, 64, .inl (fun _ => 0)))]) (w1 := [(h2, .inr (6, [.ref h3, .int 3])), (h3, .inl (k1, 64, .inl f101))]) hP hD [2, 3] [0, 1, 4, 5, 6, 7, 8, 9, 10, 11] rfl rfl (by decide) (by decide) hk1 hFc hP1 hD1
    generalize H1 = H at hP hS ⊢
    have hP : va_P (dC, dI) vwCl [(h0, .inr (7, [.ref h1, .ref z0, .ref z1, .ref h2, .ref z2, .ref z3, .int 0, .int 0, .int 0])), (h1, .inl (k0, 4, .inr (.inr (.inr (.inr (va_up (va_up (va_up (va_up (fun _ => none) 0 (some h4)) 1 (some h6)) 2 (some h8)) 3 (some h10))))))), (h4, .inr (6, [.ref h5, .int 0])), (h5, .inl (k2, 64, .inl (fun _ => 0))), (h6, .inr (6, [.ref h7, .int 0])), (h7, .inl (k3, 64, .inl (fun _ => 0))), (h8, .inr (6, [.ref h9, .int 0])), (h9, .inl (k4, 64, .inl (fun _ => 0))), (h10, .inr (6, [.ref h11, .int 0])), (h11, .inl (k5, 64, .inl (fun _ => 0))), (h2, .inr (6, [.ref h3, .int 3])), (h3, .inl (k1, 64, .inl f101))] H := hP
    have hD : va_D A [(h0, .inr (7, [.ref h1, .ref z0, .ref z1, .ref h2, .ref z2, .ref z3, .int 0, .int 0, .int 0])), (h1, .inl (k0, 4, .inr (.inr (.inr (.inr (va_up (va_up (va_up (va_up (fun _ => none) 0 (some h4)) 1 (some h6)) 2 (some h8)) 3 (some h10))))))), (h4, .inr (6, [.ref h5, .int 0])), (h5, .inl (k2, 64, .inl (fun _ => 0))), (h6, .inr (6, [.ref h7, .int 0])), (h7, .inl (k3, 64, .inl (fun _ => 0))), (h8, .inr (6, [.ref h9, .int 0])), (h9, .inl (k4, 64, .inl (fun _ => 0))), (h10, .inr (6, [.ref h11, .int 0])), (h11, .inl (k5, 64, .inl (fun _ => 0))), (h2, .inr (6, [.ref h3, .int 3])), (h3, .inl (k1, 64, .inl f101))] := hD
    have hP := hP.sub (ws' := [(h0, .inr (7, [.ref h1, .ref z0, .ref z1, .ref h2, .ref z2, .ref z3, .int 0, .int 0, .int 0])), (h1, .inl (k0, 4, .inr (.inr (.inr (.inr (va_up (va_up (va_up (va_up (fun _ => none) 0 (some h4)) 1 (some h6)) 2 (some h8)) 3 (some h10))))))), (h2, .inr (6, [.ref h3, .int 3])), (h3, .inl (k1, 64, .inl f101)), (h4, .inr (6, [.ref h5, .int 0])), (h5, .inl (k2, 64, .inl (fun _ => 0))), (h6, .inr (6, [.ref h7, .int 0])), (h7, .inl (k3, 64, .inl (fun _ => 0))), (h8, .inr (6, [.ref h9, .int 0])), (h9, .inl (k4, 64, .inl (fun _ => 0))), (h10, .inr (6, [.ref h11, .int 0])), (h11, .inl (k5, 64, .inl (fun _ => 0)))]) [0, 1, 10, 11, 2, 3, 4, 5, 6, 7, 8, 9] rfl
    have hD := hD.sub (ws' := [(h0, .inr (7, [.ref h1, .ref z0, .ref z1, .ref h2, .ref z2, .ref z3, .int 0, .int 0, .int 0])), (h1, .inl (k0, 4, .inr (.inr (.inr (.inr (va_up (va_up (va_up (va_up (fun _ => none) 0 (some h4)) 1 (some h6)) 2 (some h8)) 3 (some h10))))))), (h2, .inr (6, [.ref h3, .int 3])), (h3, .inl (k1, 64, .inl f101)), (h4, .inr (6, [.ref h5, .int 0])), (h5, .inl (k2, 64, .inl (fun _ => 0))), (h6, .inr (6, [.ref h7, .int 0])), (h7, .inl (k3, 64, .inl (fun _ => 0))), (h8, .inr (6, [.ref h9, .int 0])), (h9, .inl (k4, 64, .inl (fun _ => 0))), (h10, .inr (6, [.ref h11, .int 0])), (h11, .inl (k5, 64, .inl (fun _ => 0)))]) [0, 1, 10, 11, 2, 3, 4, 5, 6, 7, 8, 9] (by decide) rfl
    have hK := hK.sub (tys' := [(k0, .object "Rewriterope$Text"), (k1, .byte), (k2, .byte), (k3, .byte), (k4, .byte), (k5, .byte)]) [0, 1, 2, 3, 4, 5] rfl
    have hl := lv_sub hl [0, 1, 3, 4] (show lv_pick [(0, .ref h0), (1, .int rp), (4, .int l3), (5, .int l4), (6, .int l5)] [0, 1, 3, 4] = [(0, .ref h0), (1, .int rp), (5, .int l4), (6, .int l5)] from rfl)
    exact kx_X3_type_h33 f101_t hR rp_l rp_u l4_l l4_u l5_l l5_u hx hb hr hml hown hts hlocks hA hS hK hP hD hl
set_option maxHeartbeats 8000000 in
set_option maxRecDepth 100000 in
theorem kx_X3_type_h10 {l : Launch} {dC : Nat → ClassId} {dI : Nat → Nat → Nat} {h0 h1 h2 h3 h4 h5 h6 h7 h8 h9 h10 h11 z0 z1 z2 z3 : Nat} {k0 k1 k2 k3 k4 k5 : ClassId} {rp l2 l3 l4 l5 R : Int32} {p : Program} {e : Env} {s : State} {m : MethodId} {args : Array Value} {below : List Frame} {meth : Method} {c : Code} {A : Nat → Prop} {H : Heap} {locs : List Loc} {ls : Array Slot} (hR : kz_ct 0 [l2, l3, l4, l5] = R) (rp_l : (0 : Int) ≤ rp.toInt) (rp_u : rp.toInt ≤ (3 : Int)) (l2_l : (-1 : Int) ≤ l2.toInt) (l2_u : l2.toInt ≤ (3 : Int)) (l3_l : (-1 : Int) ≤ l3.toInt) (l3_u : l3.toInt ≤ (3 : Int)) (l4_l : (-1 : Int) ≤ l4.toInt) (l4_u : l4.toInt ≤ (3 : Int)) (l5_l : (-1 : Int) ≤ l5.toInt) (l5_u : l5.toInt ≤ (3 : Int)) (hx : p.tables.exec = Jvm.exec) (hb : c.code = cX3_type) (hr : meth.sig.returnType = some .int) (hml : c.maxLocals = 8) (hown : s.vm.findClass RX3 = some m.cls) (hts : ∀ w ∈ wsX3_type, w.before args s = true) (hlocks : meth.locks = false) (hA : ∀ q : Nat, s.heap.size ≤ q → A q) (hS : va_S A s.heap H locs) (hK : va_K (dC, dI) vwCl [(k0, .object "Rewriterope$Text"), (k1, .byte), (k2, .byte), (k3, .byte), (k4, .byte), (k5, .byte)] s) (hP : va_P (dC, dI) vwCl [(h0, .inr (7, [.ref h1, .ref z0, .ref z1, .ref h2, .ref z2, .ref z3, .int 0, .int 0, .int 0])), (h1, .inl (k0, 4, .inr (.inr (.inr (.inr (va_up (va_up (va_up (va_up (fun _ => none) 0 (some h4)) 1 (some h6)) 2 (some h8)) 3 (some h10))))))), (h2, .inr (6, [.ref h3, .int 0])), (h3, .inl (k1, 64, .inl (fun _ => 0))), (h4, .inr (6, [.ref h5, .int 0])), (h5, .inl (k2, 64, .inl (fun _ => 0))), (h6, .inr (6, [.ref h7, .int 0])), (h7, .inl (k3, 64, .inl (fun _ => 0))), (h8, .inr (6, [.ref h9, .int 0])), (h9, .inl (k4, 64, .inl (fun _ => 0))), (h10, .inr (6, [.ref h11, .int 0])), (h11, .inl (k5, 64, .inl (fun _ => 0)))] H) (hD : va_D A [(h0, .inr (7, [.ref h1, .ref z0, .ref z1, .ref h2, .ref z2, .ref z3, .int 0, .int 0, .int 0])), (h1, .inl (k0, 4, .inr (.inr (.inr (.inr (va_up (va_up (va_up (va_up (fun _ => none) 0 (some h4)) 1 (some h6)) 2 (some h8)) 3 (some h10))))))), (h2, .inr (6, [.ref h3, .int 0])), (h3, .inl (k1, 64, .inl (fun _ => 0))), (h4, .inr (6, [.ref h5, .int 0])), (h5, .inl (k2, 64, .inl (fun _ => 0))), (h6, .inr (6, [.ref h7, .int 0])), (h7, .inl (k3, 64, .inl (fun _ => 0))), (h8, .inr (6, [.ref h9, .int 0])), (h9, .inl (k4, 64, .inl (fun _ => 0))), (h10, .inr (6, [.ref h11, .int 0])), (h11, .inl (k5, 64, .inl (fun _ => 0)))]) (hl : lv_has ls 8 [(0, .ref h0), (1, .int rp), (3, .int l2), (4, .int l3), (5, .int l4), (6, .int l5)]) : W p l e (headSpec wsX3_type ({ frames := 2, cells := 0, slots := 0, locals := 84 })).room s m args below meth c H locs 0 0 (MQ below (va_Qi (fun (r : Int32) (_ : Unit) => r = R) (fun (_ : Unit) (t : State) => va_P (dC, dI) vwCl [(h0, .inr (7, [.ref h1, .ref z0, .ref z1, .ref h2, .ref z2, .ref z3, .int 0, .int 0, .int 0]))] t.heap ∧ va_K (dC, dI) vwCl [(k0, .object "Rewriterope$Text"), (k1, .byte), (k2, .byte), (k3, .byte), (k4, .byte), (k5, .byte)] t ∧ va_D A [(h0, .inr (7, [.ref h1, .ref z0, .ref z1, .ref h2, .ref z2, .ref z3, .int 0, .int 0, .int 0]))]) A) args s 0 0 A) (F0 m 42 ls []) := by
  rcases Int.lt_or_le l2.toInt 0 with r9 | r9
  · obtain rfl : l2 = -1 := Int32.toInt_inj.mp (by rw [show (-1 : Int32).toInt = -1 from by decide]; omega)
    have hR : kz_ct 0 [l3, l4, l5] = R := kz_ct_n.symm.trans hR
    refine lv_aload_n hx hb dX3_type_42 rfl (lv_at hl 0 rfl) ?_
    refine va_get (D := (dC, dI)) (ci := 7) (v := .ref h2) (C := RX3) (T := TX3) (N := 9) hx hb hts (by decide +kernel) hown hK hP 0 rfl rfl 3 (by decide) (hts (.fieldLink RX3 32 "Rewriterope" "work" "LRewriterope$Text;") (by decide +kernel)) (fun _ h9 => h9) rfl dX3_type_43 ?_
    refine lv_iload_n hx hb dX3_type_46 rfl (lv_at hl 2 rfl) ?_
    have hPc := hP.sub (ws' := [(h2, .inr (6, [.ref h3, .int 0]))]) [2] rfl
    have hDc := hD.sub (ws' := [(h2, .inr (6, [.ref h3, .int 0]))]) [2] (by decide) rfl
    have hKc := hK.sub (tys' := []) [] rfl
    have hFc := va_free (wc := [(h2, .inr (6, [.ref h3, .int 0]))]) hD hS hA [2] rfl
    refine va_callv (va_runV (As := [.int (-1)]) (rest := []) ⟨hx, hb, hml, hown, hts⟩ (kx_X2_add_5 l dC dI h2 h3 H.size) (cwV 1 hts gX3_type_X2_add rfl rfl rfl (by decide +kernel) ⟨Nat.le_of_ble_eq_true rfl, Nat.le_of_ble_eq_true rfl⟩) ⟨fun a U g mk q => by obtain ⟨q0, q1, qP, qK, qD⟩ := q; exact ⟨q0, q1, qP, va_K.moved (u := U) (U := U.calling g mk a) (Vm.Alike.refl U.vm) qK, qD⟩, va_recv hKc hPc (ci := 6) (q0 := 0) rfl rfl, fun U hU hW => ⟨rfl, by rw [hU], by rw [hU]; exact hPc, va_K.moved hW.alike hKc, hDc.weaken (fun _ _ _ _ => trivial)⟩⟩ rfl rfl hl.1 rfl (lv_room (Nat.le_of_ble_eq_true rfl)) dX3_type_47 ⟨Nat.le_of_ble_eq_true rfl, Nat.le_of_ble_eq_true rfl⟩) hS (fun q _ h => hFc q h) hFc (fun u t H1 locs ht hvm hw hB hz1 hk1 hS => ?_)
    obtain ⟨hP1, hK1, hD1⟩ := hB
    rw [ht] at hP1
    have hK1 := va_K.moved hvm.symm hK1
    obtain ⟨hP, hD⟩ := va_join (wr := [(h0, .inr (7, [.ref h1, .ref z0, .ref z1, .ref h2, .ref z2, .ref z3, .int 0, .int 0, .int 0])), (h1, .inl (k0, 4, .inr (.inr (.inr (.inr (va_up (va_up (va_up (va_up (fun _ => none) 0 (some h4)) 1 (some h6)) 2 (some h8)) 3 (some h10))))))), (h3, .inl (k1, 64, .inl (fun _ => 0))), (h4, .inr (6, [.ref h5, .int 0])), (h5, .inl (k2, 64, .inl (fun _ => 0))), (h6, .inr (6, [.ref h7, .int 0])), (h7, .inl (k3, 64, .inl (fun _ => 0))), (h8, .inr (6, [.ref h9, .int 0])), (h9, .inl (k4, 64, .inl (fun _ => 0))), (h10, .inr (6, [.ref h11, .int 0])), (h11, .inl (k5, 64, .inl (fun _ => 0)))]) (w1 := [(h2, .inr (6, [.ref h3, .int 0]))]) hP hD [2] [0, 1, 3, 4, 5, 6, 7, 8, 9, 10, 11] rfl rfl (by decide) (by decide) hk1 hFc hP1 hD1
    generalize H1 = H at hP hS ⊢
    have hP : va_P (dC, dI) vwCl [(h0, .inr (7, [.ref h1, .ref z0, .ref z1, .ref h2, .ref z2, .ref z3, .int 0, .int 0, .int 0])), (h1, .inl (k0, 4, .inr (.inr (.inr (.inr (va_up (va_up (va_up (va_up (fun _ => none) 0 (some h4)) 1 (some h6)) 2 (some h8)) 3 (some h10))))))), (h3, .inl (k1, 64, .inl (fun _ => 0))), (h4, .inr (6, [.ref h5, .int 0])), (h5, .inl (k2, 64, .inl (fun _ => 0))), (h6, .inr (6, [.ref h7, .int 0])), (h7, .inl (k3, 64, .inl (fun _ => 0))), (h8, .inr (6, [.ref h9, .int 0])), (h9, .inl (k4, 64, .inl (fun _ => 0))), (h10, .inr (6, [.ref h11, .int 0])), (h11, .inl (k5, 64, .inl (fun _ => 0))), (h2, .inr (6, [.ref h3, .int 0]))] H := hP
    have hD : va_D A [(h0, .inr (7, [.ref h1, .ref z0, .ref z1, .ref h2, .ref z2, .ref z3, .int 0, .int 0, .int 0])), (h1, .inl (k0, 4, .inr (.inr (.inr (.inr (va_up (va_up (va_up (va_up (fun _ => none) 0 (some h4)) 1 (some h6)) 2 (some h8)) 3 (some h10))))))), (h3, .inl (k1, 64, .inl (fun _ => 0))), (h4, .inr (6, [.ref h5, .int 0])), (h5, .inl (k2, 64, .inl (fun _ => 0))), (h6, .inr (6, [.ref h7, .int 0])), (h7, .inl (k3, 64, .inl (fun _ => 0))), (h8, .inr (6, [.ref h9, .int 0])), (h9, .inl (k4, 64, .inl (fun _ => 0))), (h10, .inr (6, [.ref h11, .int 0])), (h11, .inl (k5, 64, .inl (fun _ => 0))), (h2, .inr (6, [.ref h3, .int 0]))] := hD
    have hP := hP.sub (ws' := [(h0, .inr (7, [.ref h1, .ref z0, .ref z1, .ref h2, .ref z2, .ref z3, .int 0, .int 0, .int 0])), (h1, .inl (k0, 4, .inr (.inr (.inr (.inr (va_up (va_up (va_up (va_up (fun _ => none) 0 (some h4)) 1 (some h6)) 2 (some h8)) 3 (some h10))))))), (h2, .inr (6, [.ref h3, .int 0])), (h3, .inl (k1, 64, .inl (fun _ => 0))), (h4, .inr (6, [.ref h5, .int 0])), (h5, .inl (k2, 64, .inl (fun _ => 0))), (h6, .inr (6, [.ref h7, .int 0])), (h7, .inl (k3, 64, .inl (fun _ => 0))), (h8, .inr (6, [.ref h9, .int 0])), (h9, .inl (k4, 64, .inl (fun _ => 0))), (h10, .inr (6, [.ref h11, .int 0])), (h11, .inl (k5, 64, .inl (fun _ => 0)))]) [0, 1, 11, 2, 3, 4, 5, 6, 7, 8, 9, 10] rfl
    have hD := hD.sub (ws' := [(h0, .inr (7, [.ref h1, .ref z0, .ref z1, .ref h2, .ref z2, .ref z3, .int 0, .int 0, .int 0])), (h1, .inl (k0, 4, .inr (.inr (.inr (.inr (va_up (va_up (va_up (va_up (fun _ => none) 0 (some h4)) 1 (some h6)) 2 (some h8)) 3 (some h10))))))), (h2, .inr (6, [.ref h3, .int 0])), (h3, .inl (k1, 64, .inl (fun _ => 0))), (h4, .inr (6, [.ref h5, .int 0])), (h5, .inl (k2, 64, .inl (fun _ => 0))), (h6, .inr (6, [.ref h7, .int 0])), (h7, .inl (k3, 64, .inl (fun _ => 0))), (h8, .inr (6, [.ref h9, .int 0])), (h9, .inl (k4, 64, .inl (fun _ => 0))), (h10, .inr (6, [.ref h11, .int 0])), (h11, .inl (k5, 64, .inl (fun _ => 0)))]) [0, 1, 11, 2, 3, 4, 5, 6, 7, 8, 9, 10] (by decide) rfl
    have hK := hK.sub (tys' := [(k0, .object "Rewriterope$Text"), (k1, .byte), (k2, .byte), (k3, .byte), (k4, .byte), (k5, .byte)]) [0, 1, 2, 3, 4, 5] rfl
    have hl := lv_sub hl [0, 1, 3, 4, 5] (show lv_pick [(0, .ref h0), (1, .int rp), (3, .int (-1)), (4, .int l3), (5, .int l4), (6, .int l5)] [0, 1, 3, 4, 5] = [(0, .ref h0), (1, .int rp), (4, .int l3), (5, .int l4), (6, .int l5)] from rfl)
    exact kx_X3_type_h20 hR rp_l rp_u l3_l l3_u l4_l l4_u l5_l l5_u hx hb hr hml hown hts hlocks hA hS hK hP hD hl
  · have l2_l : (0 : Int) ≤ l2.toInt := r9
    have hR : kz_ct 1 [l3, l4, l5] = R := (kz_ct_g l2_l).symm.trans hR
    refine lv_aload_n hx hb dX3_type_42 rfl (lv_at hl 0 rfl) ?_
    refine va_get (D := (dC, dI)) (ci := 7) (v := .ref h2) (C := RX3) (T := TX3) (N := 9) hx hb hts (by decide +kernel) hown hK hP 0 rfl rfl 3 (by decide) (hts (.fieldLink RX3 32 "Rewriterope" "work" "LRewriterope$Text;") (by decide +kernel)) (fun _ h9 => h9) rfl dX3_type_43 ?_
    refine lv_iload_n hx hb dX3_type_46 rfl (lv_at hl 2 rfl) ?_
    have hPc := hP.sub (ws' := [(h2, .inr (6, [.ref h3, .int 0])), (h3, .inl (k1, 64, .inl (fun _ => 0)))]) [2, 3] rfl
    have hDc := hD.sub (ws' := [(h2, .inr (6, [.ref h3, .int 0])), (h3, .inl (k1, 64, .inl (fun _ => 0)))]) [2, 3] (by decide) rfl
    have hKc := hK.sub (tys' := [(k1, .byte)]) [1] rfl
    have hFc := va_free (wc := [(h2, .inr (6, [.ref h3, .int 0])), (h3, .inl (k1, 64, .inl (fun _ => 0)))]) hD hS hA [2, 3] rfl
    refine va_callv (va_runV (As := [.int l2]) (rest := []) ⟨hx, hb, hml, hown, hts⟩ (kx_X2_add_6 l dC dI h2 h3 k1 H.size l2 l2_l l2_u) (cwV 1 hts gX3_type_X2_add rfl rfl rfl (by decide +kernel) ⟨Nat.le_of_ble_eq_true rfl, Nat.le_of_ble_eq_true rfl⟩) ⟨fun a U g mk q => by obtain ⟨q0, q1, qP, qK, qD⟩ := q; exact ⟨q0, q1, qP, va_K.moved (u := U) (U := U.calling g mk a) (Vm.Alike.refl U.vm) qK, qD⟩, va_recv hKc hPc (ci := 6) (q0 := 0) rfl rfl, fun U hU hW => ⟨rfl, by rw [hU], by rw [hU]; exact hPc, va_K.moved hW.alike hKc, hDc.weaken (fun _ _ _ _ => trivial)⟩⟩ rfl rfl hl.1 rfl (lv_room (Nat.le_of_ble_eq_true rfl)) dX3_type_47 ⟨Nat.le_of_ble_eq_true rfl, Nat.le_of_ble_eq_true rfl⟩) hS (fun q _ h => hFc q h) hFc (fun u t H1 locs ht hvm hw hB hz1 hk1 hS => ?_)
    obtain ⟨f101, f101_t, hP1, hK1, hD1⟩ := hB
    rw [ht] at hP1
    have hK1 := va_K.moved hvm.symm hK1
    obtain ⟨hP, hD⟩ := va_join (wr := [(h0, .inr (7, [.ref h1, .ref z0, .ref z1, .ref h2, .ref z2, .ref z3, .int 0, .int 0, .int 0])), (h1, .inl (k0, 4, .inr (.inr (.inr (.inr (va_up (va_up (va_up (va_up (fun _ => none) 0 (some h4)) 1 (some h6)) 2 (some h8)) 3 (some h10))))))), (h4, .inr (6, [.ref h5, .int 0])), (h5, .inl (k2, 64, .inl (fun _ => 0))), (h6, .inr (6, [.ref h7, .int 0])), (h7, .inl (k3, 64, .inl (fun _ => 0))), (h8, .inr (6, [.ref h9, .int 0])), (h9, .inl (k4, 64, .inl (fun _ => 0))), (h10, .inr (6, [.ref h11, .int 0])), (h11, .inl (k5, 64, .inl (fun _ => 0)))]) (w1 := [(h2, .inr (6, [.ref h3, .int 1])), (h3, .inl (k1, 64, .inl f101))]) hP hD [2, 3] [0, 1, 4, 5, 6, 7, 8, 9, 10, 11] rfl rfl (by decide) (by decide) hk1 hFc hP1 hD1
    generalize H1 = H at hP hS ⊢
    have hP : va_P (dC, dI) vwCl [(h0, .inr (7, [.ref h1, .ref z0, .ref z1, .ref h2, .ref z2, .ref z3, .int 0, .int 0, .int 0])), (h1, .inl (k0, 4, .inr (.inr (.inr (.inr (va_up (va_up (va_up (va_up (fun _ => none) 0 (some h4)) 1 (some h6)) 2 (some h8)) 3 (some h10))))))), (h4, .inr (6, [.ref h5, .int 0])), (h5, .inl (k2, 64, .inl (fun _ => 0))), (h6, .inr (6, [.ref h7, .int 0])), (h7, .inl (k3, 64, .inl (fun _ => 0))), (h8, .inr (6, [.ref h9, .int 0])), (h9, .inl (k4, 64, .inl (fun _ => 0))), (h10, .inr (6, [.ref h11, .int 0])), (h11, .inl (k5, 64, .inl (fun _ => 0))), (h2, .inr (6, [.ref h3, .int 1])), (h3, .inl (k1, 64, .inl f101))] H := hP
    have hD : va_D A [(h0, .inr (7, [.ref h1, .ref z0, .ref z1, .ref h2, .ref z2, .ref z3, .int 0, .int 0, .int 0])), (h1, .inl (k0, 4, .inr (.inr (.inr (.inr (va_up (va_up (va_up (va_up (fun _ => none) 0 (some h4)) 1 (some h6)) 2 (some h8)) 3 (some h10))))))), (h4, .inr (6, [.ref h5, .int 0])), (h5, .inl (k2, 64, .inl (fun _ => 0))), (h6, .inr (6, [.ref h7, .int 0])), (h7, .inl (k3, 64, .inl (fun _ => 0))), (h8, .inr (6, [.ref h9, .int 0])), (h9, .inl (k4, 64, .inl (fun _ => 0))), (h10, .inr (6, [.ref h11, .int 0])), (h11, .inl (k5, 64, .inl (fun _ => 0))), (h2, .inr (6, [.ref h3, .int 1])), (h3, .inl (k1, 64, .inl f101))] := hD
    have hP := hP.sub (ws' := [(h0, .inr (7, [.ref h1, .ref z0, .ref z1, .ref h2, .ref z2, .ref z3, .int 0, .int 0, .int 0])), (h1, .inl (k0, 4, .inr (.inr (.inr (.inr (va_up (va_up (va_up (va_up (fun _ => none) 0 (some h4)) 1 (some h6)) 2 (some h8)) 3 (some h10))))))), (h2, .inr (6, [.ref h3, .int 1])), (h3, .inl (k1, 64, .inl f101)), (h4, .inr (6, [.ref h5, .int 0])), (h5, .inl (k2, 64, .inl (fun _ => 0))), (h6, .inr (6, [.ref h7, .int 0])), (h7, .inl (k3, 64, .inl (fun _ => 0))), (h8, .inr (6, [.ref h9, .int 0])), (h9, .inl (k4, 64, .inl (fun _ => 0))), (h10, .inr (6, [.ref h11, .int 0])), (h11, .inl (k5, 64, .inl (fun _ => 0)))]) [0, 1, 10, 11, 2, 3, 4, 5, 6, 7, 8, 9] rfl
    have hD := hD.sub (ws' := [(h0, .inr (7, [.ref h1, .ref z0, .ref z1, .ref h2, .ref z2, .ref z3, .int 0, .int 0, .int 0])), (h1, .inl (k0, 4, .inr (.inr (.inr (.inr (va_up (va_up (va_up (va_up (fun _ => none) 0 (some h4)) 1 (some h6)) 2 (some h8)) 3 (some h10))))))), (h2, .inr (6, [.ref h3, .int 1])), (h3, .inl (k1, 64, .inl f101)), (h4, .inr (6, [.ref h5, .int 0])), (h5, .inl (k2, 64, .inl (fun _ => 0))), (h6, .inr (6, [.ref h7, .int 0])), (h7, .inl (k3, 64, .inl (fun _ => 0))), (h8, .inr (6, [.ref h9, .int 0])), (h9, .inl (k4, 64, .inl (fun _ => 0))), (h10, .inr (6, [.ref h11, .int 0])), (h11, .inl (k5, 64, .inl (fun _ => 0)))]) [0, 1, 10, 11, 2, 3, 4, 5, 6, 7, 8, 9] (by decide) rfl
    have hK := hK.sub (tys' := [(k0, .object "Rewriterope$Text"), (k1, .byte), (k2, .byte), (k3, .byte), (k4, .byte), (k5, .byte)]) [0, 1, 2, 3, 4, 5] rfl
    have hl := lv_sub hl [0, 1, 3, 4, 5] (show lv_pick [(0, .ref h0), (1, .int rp), (3, .int l2), (4, .int l3), (5, .int l4), (6, .int l5)] [0, 1, 3, 4, 5] = [(0, .ref h0), (1, .int rp), (4, .int l3), (5, .int l4), (6, .int l5)] from rfl)
    exact kx_X3_type_h21 f101_t hR rp_l rp_u l3_l l3_u l4_l l4_u l5_l l5_u hx hb hr hml hown hts hlocks hA hS hK hP hD hl
set_option maxHeartbeats 8000000 in
set_option maxRecDepth 100000 in
theorem kx_X3_type_h11 {l : Launch} {dC : Nat → ClassId} {dI : Nat → Nat → Nat} {h0 h1 h2 h3 h4 h5 h6 h7 h8 h9 h10 h11 z0 z1 z2 z3 : Nat} {k0 k1 k2 k3 k4 k5 : ClassId} {rp l2 l3 l4 l5 R : Int32} {p : Program} {e : Env} {s : State} {m : MethodId} {args : Array Value} {below : List Frame} {meth : Method} {c : Code} {A : Nat → Prop} {H : Heap} {locs : List Loc} {ls : Array Slot} {f0 : Nat → Int32} (f0_t : sb_Fit f0) (hR : kz_ct 1 [l2, l3, l4, l5] = R) (rp_l : (0 : Int) ≤ rp.toInt) (rp_u : rp.toInt ≤ (3 : Int)) (l2_l : (-1 : Int) ≤ l2.toInt) (l2_u : l2.toInt ≤ (3 : Int)) (l3_l : (-1 : Int) ≤ l3.toInt) (l3_u : l3.toInt ≤ (3 : Int)) (l4_l : (-1 : Int) ≤ l4.toInt) (l4_u : l4.toInt ≤ (3 : Int)) (l5_l : (-1 : Int) ≤ l5.toInt) (l5_u : l5.toInt ≤ (3 : Int)) (hx : p.tables.exec = Jvm.exec) (hb : c.code = cX3_type) (hr : meth.sig.returnType = some .int) (hml : c.maxLocals = 8) (hown : s.vm.findClass RX3 = some m.cls) (hts : ∀ w ∈ wsX3_type, w.before args s = true) (hlocks : meth.locks = false) (hA : ∀ q : Nat, s.heap.size ≤ q → A q) (hS : va_S A s.heap H locs) (hK : va_K (dC, dI) vwCl [(k0, .object "Rewriterope$Text"), (k1, .byte), (k2, .byte), (k3, .byte), (k4, .byte), (k5, .byte)] s) (hP : va_P (dC, dI) vwCl [(h0, .inr (7, [.ref h1, .ref z0, .ref z1, .ref h2, .ref z2, .ref z3, .int 0, .int 0, .int 0])), (h1, .inl (k0, 4, .inr (.inr (.inr (.inr (va_up (va_up (va_up (va_up (fun _ => none) 0 (some h4)) 1 (some h6)) 2 (some h8)) 3 (some h10))))))), (h2, .inr (6, [.ref h3, .int 1])), (h3, .inl (k1, 64, .inl f0)), (h4, .inr (6, [.ref h5, .int 0])), (h5, .inl (k2, 64, .inl (fun _ => 0))), (h6, .inr (6, [.ref h7, .int 0])), (h7, .inl (k3, 64, .inl (fun _ => 0))), (h8, .inr (6, [.ref h9, .int 0])), (h9, .inl (k4, 64, .inl (fun _ => 0))), (h10, .inr (6, [.ref h11, .int 0])), (h11, .inl (k5, 64, .inl (fun _ => 0)))] H) (hD : va_D A [(h0, .inr (7, [.ref h1, .ref z0, .ref z1, .ref h2, .ref z2, .ref z3, .int 0, .int 0, .int 0])), (h1, .inl (k0, 4, .inr (.inr (.inr (.inr (va_up (va_up (va_up (va_up (fun _ => none) 0 (some h4)) 1 (some h6)) 2 (some h8)) 3 (some h10))))))), (h2, .inr (6, [.ref h3, .int 1])), (h3, .inl (k1, 64, .inl f0)), (h4, .inr (6, [.ref h5, .int 0])), (h5, .inl (k2, 64, .inl (fun _ => 0))), (h6, .inr (6, [.ref h7, .int 0])), (h7, .inl (k3, 64, .inl (fun _ => 0))), (h8, .inr (6, [.ref h9, .int 0])), (h9, .inl (k4, 64, .inl (fun _ => 0))), (h10, .inr (6, [.ref h11, .int 0])), (h11, .inl (k5, 64, .inl (fun _ => 0)))]) (hl : lv_has ls 8 [(0, .ref h0), (1, .int rp), (3, .int l2), (4, .int l3), (5, .int l4), (6, .int l5)]) : W p l e (headSpec wsX3_type ({ frames := 2, cells := 0, slots := 0, locals := 84 })).room s m args below meth c H locs 0 0 (MQ below (va_Qi (fun (r : Int32) (_ : Unit) => r = R) (fun (_ : Unit) (t : State) => va_P (dC, dI) vwCl [(h0, .inr (7, [.ref h1, .ref z0, .ref z1, .ref h2, .ref z2, .ref z3, .int 0, .int 0, .int 0]))] t.heap ∧ va_K (dC, dI) vwCl [(k0, .object "Rewriterope$Text"), (k1, .byte), (k2, .byte), (k3, .byte), (k4, .byte), (k5, .byte)] t ∧ va_D A [(h0, .inr (7, [.ref h1, .ref z0, .ref z1, .ref h2, .ref z2, .ref z3, .int 0, .int 0, .int 0]))]) A) args s 0 0 A) (F0 m 42 ls []) := by
  rcases Int.lt_or_le l2.toInt 0 with r9 | r9
  · obtain rfl : l2 = -1 := Int32.toInt_inj.mp (by rw [show (-1 : Int32).toInt = -1 from by decide]; omega)
    have hR : kz_ct 1 [l3, l4, l5] = R := kz_ct_n.symm.trans hR
    refine lv_aload_n hx hb dX3_type_42 rfl (lv_at hl 0 rfl) ?_
    refine va_get (D := (dC, dI)) (ci := 7) (v := .ref h2) (C := RX3) (T := TX3) (N := 9) hx hb hts (by decide +kernel) hown hK hP 0 rfl rfl 3 (by decide) (hts (.fieldLink RX3 32 "Rewriterope" "work" "LRewriterope$Text;") (by decide +kernel)) (fun _ h9 => h9) rfl dX3_type_43 ?_
    refine lv_iload_n hx hb dX3_type_46 rfl (lv_at hl 2 rfl) ?_
    have hPc := hP.sub (ws' := [(h2, .inr (6, [.ref h3, .int 1]))]) [2] rfl
    have hDc := hD.sub (ws' := [(h2, .inr (6, [.ref h3, .int 1]))]) [2] (by decide) rfl
    have hKc := hK.sub (tys' := []) [] rfl
    have hFc := va_free (wc := [(h2, .inr (6, [.ref h3, .int 1]))]) hD hS hA [2] rfl
    refine va_callv (va_runV (As := [.int (-1)]) (rest := []) ⟨hx, hb, hml, hown, hts⟩ (kx_X2_add_7 l dC dI h2 h3 H.size) (cwV 1 hts gX3_type_X2_add rfl rfl rfl (by decide +kernel) ⟨Nat.le_of_ble_eq_true rfl, Nat.le_of_ble_eq_true rfl⟩) ⟨fun a U g mk q => by obtain ⟨q0, q1, qP, qK, qD⟩ := q; exact ⟨q0, q1, qP, va_K.moved (u := U) (U := U.calling g mk a) (Vm.Alike.refl U.vm) qK, qD⟩, va_recv hKc hPc (ci := 6) (q0 := 0) rfl rfl, fun U hU hW => ⟨rfl, by rw [hU], by rw [hU]; exact hPc, va_K.moved hW.alike hKc, hDc.weaken (fun _ _ _ _ => trivial)⟩⟩ rfl rfl hl.1 rfl (lv_room (Nat.le_of_ble_eq_true rfl)) dX3_type_47 ⟨Nat.le_of_ble_eq_true rfl, Nat.le_of_ble_eq_true rfl⟩) hS (fun q _ h => hFc q h) hFc (fun u t H1 locs ht hvm hw hB hz1 hk1 hS => ?_)
    obtain ⟨hP1, hK1, hD1⟩ := hB
    rw [ht] at hP1
    have hK1 := va_K.moved hvm.symm hK1
    obtain ⟨hP, hD⟩ := va_join (wr := [(h0, .inr (7, [.ref h1, .ref z0, .ref z1, .ref h2, .ref z2, .ref z3, .int 0, .int 0, .int 0])), (h1, .inl (k0, 4, .inr (.inr (.inr (.inr (va_up (va_up (va_up (va_up (fun _ => none) 0 (some h4)) 1 (some h6)) 2 (some h8)) 3 (some h10))))))), (h3, .inl (k1, 64, .inl f0)), (h4, .inr (6, [.ref h5, .int 0])), (h5, .inl (k2, 64, .inl (fun _ => 0))), (h6, .inr (6, [.ref h7, .int 0])), (h7, .inl (k3, 64, .inl (fun _ => 0))), (h8, .inr (6, [.ref h9, .int 0])), (h9, .inl (k4, 64, .inl (fun _ => 0))), (h10, .inr (6, [.ref h11, .int 0])), (h11, .inl (k5, 64, .inl (fun _ => 0)))]) (w1 := [(h2, .inr (6, [.ref h3, .int 1]))]) hP hD [2] [0, 1, 3, 4, 5, 6, 7, 8, 9, 10, 11] rfl rfl (by decide) (by decide) hk1 hFc hP1 hD1
    generalize H1 = H at hP hS ⊢
    have hP : va_P (dC, dI) vwCl [(h0, .inr (7, [.ref h1, .ref z0, .ref z1, .ref h2, .ref z2, .ref z3, .int 0, .int 0, .int 0])), (h1, .inl (k0, 4, .inr (.inr (.inr (.inr (va_up (va_up (va_up (va_up (fun _ => none) 0 (some h4)) 1 (some h6)) 2 (some h8)) 3 (some h10))))))), (h3, .inl (k1, 64, .inl f0)), (h4, .inr (6, [.ref h5, .int 0])), (h5, .inl (k2, 64, .inl (fun _ => 0))), (h6, .inr (6, [.ref h7, .int 0])), (h7, .inl (k3, 64, .inl (fun _ => 0))), (h8, .inr (6, [.ref h9, .int 0])), (h9, .inl (k4, 64, .inl (fun _ => 0))), (h10, .inr (6, [.ref h11, .int 0])), (h11, .inl (k5, 64, .inl (fun _ => 0))), (h2, .inr (6, [.ref h3, .int 1]))] H := hP
    have hD : va_D A [(h0, .inr (7, [.ref h1, .ref z0, .ref z1, .ref h2, .ref z2, .ref z3, .int 0, .int 0, .int 0])), (h1, .inl (k0, 4, .inr (.inr (.inr (.inr (va_up (va_up (va_up (va_up (fun _ => none) 0 (some h4)) 1 (some h6)) 2 (some h8)) 3 (some h10))))))), (h3, .inl (k1, 64, .inl f0)), (h4, .inr (6, [.ref h5, .int 0])), (h5, .inl (k2, 64, .inl (fun _ => 0))), (h6, .inr (6, [.ref h7, .int 0])), (h7, .inl (k3, 64, .inl (fun _ => 0))), (h8, .inr (6, [.ref h9, .int 0])), (h9, .inl (k4, 64, .inl (fun _ => 0))), (h10, .inr (6, [.ref h11, .int 0])), (h11, .inl (k5, 64, .inl (fun _ => 0))), (h2, .inr (6, [.ref h3, .int 1]))] := hD
    have hP := hP.sub (ws' := [(h0, .inr (7, [.ref h1, .ref z0, .ref z1, .ref h2, .ref z2, .ref z3, .int 0, .int 0, .int 0])), (h1, .inl (k0, 4, .inr (.inr (.inr (.inr (va_up (va_up (va_up (va_up (fun _ => none) 0 (some h4)) 1 (some h6)) 2 (some h8)) 3 (some h10))))))), (h2, .inr (6, [.ref h3, .int 1])), (h3, .inl (k1, 64, .inl f0)), (h4, .inr (6, [.ref h5, .int 0])), (h5, .inl (k2, 64, .inl (fun _ => 0))), (h6, .inr (6, [.ref h7, .int 0])), (h7, .inl (k3, 64, .inl (fun _ => 0))), (h8, .inr (6, [.ref h9, .int 0])), (h9, .inl (k4, 64, .inl (fun _ => 0))), (h10, .inr (6, [.ref h11, .int 0])), (h11, .inl (k5, 64, .inl (fun _ => 0)))]) [0, 1, 11, 2, 3, 4, 5, 6, 7, 8, 9, 10] rfl
    have hD := hD.sub (ws' := [(h0, .inr (7, [.ref h1, .ref z0, .ref z1, .ref h2, .ref z2, .ref z3, .int 0, .int 0, .int 0])), (h1, .inl (k0, 4, .inr (.inr (.inr (.inr (va_up (va_up (va_up (va_up (fun _ => none) 0 (some h4)) 1 (some h6)) 2 (some h8)) 3 (some h10))))))), (h2, .inr (6, [.ref h3, .int 1])), (h3, .inl (k1, 64, .inl f0)), (h4, .inr (6, [.ref h5, .int 0])), (h5, .inl (k2, 64, .inl (fun _ => 0))), (h6, .inr (6, [.ref h7, .int 0])), (h7, .inl (k3, 64, .inl (fun _ => 0))), (h8, .inr (6, [.ref h9, .int 0])), (h9, .inl (k4, 64, .inl (fun _ => 0))), (h10, .inr (6, [.ref h11, .int 0])), (h11, .inl (k5, 64, .inl (fun _ => 0)))]) [0, 1, 11, 2, 3, 4, 5, 6, 7, 8, 9, 10] (by decide) rfl
    have hK := hK.sub (tys' := [(k0, .object "Rewriterope$Text"), (k1, .byte), (k2, .byte), (k3, .byte), (k4, .byte), (k5, .byte)]) [0, 1, 2, 3, 4, 5] rfl
    have hl := lv_sub hl [0, 1, 3, 4, 5] (show lv_pick [(0, .ref h0), (1, .int rp), (3, .int (-1)), (4, .int l3), (5, .int l4), (6, .int l5)] [0, 1, 3, 4, 5] = [(0, .ref h0), (1, .int rp), (4, .int l3), (5, .int l4), (6, .int l5)] from rfl)
    exact kx_X3_type_h21 f0_t hR rp_l rp_u l3_l l3_u l4_l l4_u l5_l l5_u hx hb hr hml hown hts hlocks hA hS hK hP hD hl
  · have l2_l : (0 : Int) ≤ l2.toInt := r9
    have hR : kz_ct 2 [l3, l4, l5] = R := (kz_ct_g l2_l).symm.trans hR
    refine lv_aload_n hx hb dX3_type_42 rfl (lv_at hl 0 rfl) ?_
    refine va_get (D := (dC, dI)) (ci := 7) (v := .ref h2) (C := RX3) (T := TX3) (N := 9) hx hb hts (by decide +kernel) hown hK hP 0 rfl rfl 3 (by decide) (hts (.fieldLink RX3 32 "Rewriterope" "work" "LRewriterope$Text;") (by decide +kernel)) (fun _ h9 => h9) rfl dX3_type_43 ?_
    refine lv_iload_n hx hb dX3_type_46 rfl (lv_at hl 2 rfl) ?_
    have hPc := hP.sub (ws' := [(h2, .inr (6, [.ref h3, .int 1])), (h3, .inl (k1, 64, .inl f0))]) [2, 3] rfl
    have hDc := hD.sub (ws' := [(h2, .inr (6, [.ref h3, .int 1])), (h3, .inl (k1, 64, .inl f0))]) [2, 3] (by decide) rfl
    have hKc := hK.sub (tys' := [(k1, .byte)]) [1] rfl
    have hFc := va_free (wc := [(h2, .inr (6, [.ref h3, .int 1])), (h3, .inl (k1, 64, .inl f0))]) hD hS hA [2, 3] rfl
    refine va_callv (va_runV (As := [.int l2]) (rest := []) ⟨hx, hb, hml, hown, hts⟩ (kx_X2_add_8 l dC dI h2 h3 k1 H.size f0 f0_t l2 l2_l l2_u) (cwV 1 hts gX3_type_X2_add rfl rfl rfl (by decide +kernel) ⟨Nat.le_of_ble_eq_true rfl, Nat.le_of_ble_eq_true rfl⟩) ⟨fun a U g mk q => by obtain ⟨q0, q1, qP, qK, qD⟩ := q; exact ⟨q0, q1, qP, va_K.moved (u := U) (U := U.calling g mk a) (Vm.Alike.refl U.vm) qK, qD⟩, va_recv hKc hPc (ci := 6) (q0 := 0) rfl rfl, fun U hU hW => ⟨rfl, by rw [hU], by rw [hU]; exact hPc, va_K.moved hW.alike hKc, hDc.weaken (fun _ _ _ _ => trivial)⟩⟩ rfl rfl hl.1 rfl (lv_room (Nat.le_of_ble_eq_true rfl)) dX3_type_47 ⟨Nat.le_of_ble_eq_true rfl, Nat.le_of_ble_eq_true rfl⟩) hS (fun q _ h => hFc q h) hFc (fun u t H1 locs ht hvm hw hB hz1 hk1 hS => ?_)
    obtain ⟨f101, f101_t, hP1, hK1, hD1⟩ := hB
    rw [ht] at hP1
    have hK1 := va_K.moved hvm.symm hK1
    obtain ⟨hP, hD⟩ := va_join (wr := [(h0, .inr (7, [.ref h1, .ref z0, .ref z1, .ref h2, .ref z2, .ref z3, .int 0, .int 0, .int 0])), (h1, .inl (k0, 4, .inr (.inr (.inr (.inr (va_up (va_up (va_up (va_up (fun _ => none) 0 (some h4)) 1 (some h6)) 2 (some h8)) 3 (some h10))))))), (h4, .inr (6, [.ref h5, .int 0])), (h5, .inl (k2, 64, .inl (fun _ => 0))), (h6, .inr (6, [.ref h7, .int 0])), (h7, .inl (k3, 64, .inl (fun _ => 0))), (h8, .inr (6, [.ref h9, .int 0])), (h9, .inl (k4, 64, .inl (fun _ => 0))), (h10, .inr (6, [.ref h11, .int 0])), (h11, .inl (k5, 64, .inl (fun _ => 0)))]) (w1 := [(h2, .inr (6, [.ref h3, .int 2])), (h3, .inl (k1, 64, .inl f101))]) hP hD [2, 3] [0, 1, 4, 5, 6, 7, 8, 9, 10, 11] rfl rfl (by decide) (by decide) hk1 hFc hP1 hD1
    generalize H1 = H at hP hS ⊢
    have hP : va_P (dC, dI) vwCl [(h0, .inr (7, [.ref h1, .ref z0, .ref z1, .ref h2, .ref z2, .ref z3, .int 0, .int 0, .int 0])), (h1, .inl (k0, 4, .inr (.inr (.inr (.inr (va_up (va_up (va_up (va_up (fun _ => none) 0 (some h4)) 1 (some h6)) 2 (some h8)) 3 (some h10))))))), (h4, .inr (6, [.ref h5, .int 0])), (h5, .inl (k2, 64, .inl (fun _ => 0))), (h6, .inr (6, [.ref h7, .int 0])), (h7, .inl (k3, 64, .inl (fun _ => 0))), (h8, .inr (6, [.ref h9, .int 0])), (h9, .inl (k4, 64, .inl (fun _ => 0))), (h10, .inr (6, [.ref h11, .int 0])), (h11, .inl (k5, 64, .inl (fun _ => 0))), (h2, .inr (6, [.ref h3, .int 2])), (h3, .inl (k1, 64, .inl f101))] H := hP
    have hD : va_D A [(h0, .inr (7, [.ref h1, .ref z0, .ref z1, .ref h2, .ref z2, .ref z3, .int 0, .int 0, .int 0])), (h1, .inl (k0, 4, .inr (.inr (.inr (.inr (va_up (va_up (va_up (va_up (fun _ => none) 0 (some h4)) 1 (some h6)) 2 (some h8)) 3 (some h10))))))), (h4, .inr (6, [.ref h5, .int 0])), (h5, .inl (k2, 64, .inl (fun _ => 0))), (h6, .inr (6, [.ref h7, .int 0])), (h7, .inl (k3, 64, .inl (fun _ => 0))), (h8, .inr (6, [.ref h9, .int 0])), (h9, .inl (k4, 64, .inl (fun _ => 0))), (h10, .inr (6, [.ref h11, .int 0])), (h11, .inl (k5, 64, .inl (fun _ => 0))), (h2, .inr (6, [.ref h3, .int 2])), (h3, .inl (k1, 64, .inl f101))] := hD
    have hP := hP.sub (ws' := [(h0, .inr (7, [.ref h1, .ref z0, .ref z1, .ref h2, .ref z2, .ref z3, .int 0, .int 0, .int 0])), (h1, .inl (k0, 4, .inr (.inr (.inr (.inr (va_up (va_up (va_up (va_up (fun _ => none) 0 (some h4)) 1 (some h6)) 2 (some h8)) 3 (some h10))))))), (h2, .inr (6, [.ref h3, .int 2])), (h3, .inl (k1, 64, .inl f101)), (h4, .inr (6, [.ref h5, .int 0])), (h5, .inl (k2, 64, .inl (fun _ => 0))), (h6, .inr (6, [.ref h7, .int 0])), (h7, .inl (k3, 64, .inl (fun _ => 0))), (h8, .inr (6, [.ref h9, .int 0])), (h9, .inl (k4, 64, .inl (fun _ => 0))), (h10, .inr (6, [.ref h11, .int 0])), (h11, .inl (k5, 64, .inl (fun _ => 0)))]) [0, 1, 10, 11, 2, 3, 4, 5, 6, 7, 8, 9] rfl
    have hD := hD.sub (ws' := [(h0, .inr (7, [.ref h1, .ref z0, .ref z1, .ref h2, .ref z2, .ref z3, .int 0, .int 0, .int 0])), (h1, .inl (k0, 4, .inr (.inr (.inr (.inr (va_up (va_up (va_up (va_up (fun _ => none) 0 (some h4)) 1 (some h6)) 2 (some h8)) 3 (some h10))))))), (h2, .inr (6, [.ref h3, .int 2])), (h3, .inl (k1, 64, .inl f101)), (h4, .inr (6, [.ref h5, .int 0])), (h5, .inl (k2, 64, .inl (fun _ => 0))), (h6, .inr (6, [.ref h7, .int 0])), (h7, .inl (k3, 64, .inl (fun _ => 0))), (h8, .inr (6, [.ref h9, .int 0])), (h9, .inl (k4, 64, .inl (fun _ => 0))), (h10, .inr (6, [.ref h11, .int 0])), (h11, .inl (k5, 64, .inl (fun _ => 0)))]) [0, 1, 10, 11, 2, 3, 4, 5, 6, 7, 8, 9] (by decide) rfl
    have hK := hK.sub (tys' := [(k0, .object "Rewriterope$Text"), (k1, .byte), (k2, .byte), (k3, .byte), (k4, .byte), (k5, .byte)]) [0, 1, 2, 3, 4, 5] rfl
    have hl := lv_sub hl [0, 1, 3, 4, 5] (show lv_pick [(0, .ref h0), (1, .int rp), (3, .int l2), (4, .int l3), (5, .int l4), (6, .int l5)] [0, 1, 3, 4, 5] = [(0, .ref h0), (1, .int rp), (4, .int l3), (5, .int l4), (6, .int l5)] from rfl)
    exact kx_X3_type_h22 f101_t hR rp_l rp_u l3_l l3_u l4_l l4_u l5_l l5_u hx hb hr hml hown hts hlocks hA hS hK hP hD hl
set_option maxHeartbeats 8000000 in
set_option maxRecDepth 100000 in
theorem kx_X3_type_h00 {l : Launch} {dC : Nat → ClassId} {dI : Nat → Nat → Nat} {h0 h1 h2 h3 h4 h5 h6 h7 h8 h9 h10 h11 z0 z1 z2 z3 : Nat} {k0 k1 k2 k3 k4 k5 : ClassId} {rp l1 l2 l3 l4 l5 R : Int32} {p : Program} {e : Env} {s : State} {m : MethodId} {args : Array Value} {below : List Frame} {meth : Method} {c : Code} {A : Nat → Prop} {H : Heap} {locs : List Loc} {ls : Array Slot} (hR : kz_ct 0 [l1, l2, l3, l4, l5] = R) (rp_l : (0 : Int) ≤ rp.toInt) (rp_u : rp.toInt ≤ (3 : Int)) (l1_l : (-1 : Int) ≤ l1.toInt) (l1_u : l1.toInt ≤ (3 : Int)) (l2_l : (-1 : Int) ≤ l2.toInt) (l2_u : l2.toInt ≤ (3 : Int)) (l3_l : (-1 : Int) ≤ l3.toInt) (l3_u : l3.toInt ≤ (3 : Int)) (l4_l : (-1 : Int) ≤ l4.toInt) (l4_u : l4.toInt ≤ (3 : Int)) (l5_l : (-1 : Int) ≤ l5.toInt) (l5_u : l5.toInt ≤ (3 : Int)) (hx : p.tables.exec = Jvm.exec) (hb : c.code = cX3_type) (hr : meth.sig.returnType = some .int) (hml : c.maxLocals = 8) (hown : s.vm.findClass RX3 = some m.cls) (hts : ∀ w ∈ wsX3_type, w.before args s = true) (hlocks : meth.locks = false) (hA : ∀ q : Nat, s.heap.size ≤ q → A q) (hS : va_S A s.heap H locs) (hK : va_K (dC, dI) vwCl [(k0, .object "Rewriterope$Text"), (k1, .byte), (k2, .byte), (k3, .byte), (k4, .byte), (k5, .byte)] s) (hP : va_P (dC, dI) vwCl [(h0, .inr (7, [.ref h1, .ref z0, .ref z1, .ref h2, .ref z2, .ref z3, .int 0, .int 0, .int 0])), (h1, .inl (k0, 4, .inr (.inr (.inr (.inr (va_up (va_up (va_up (va_up (fun _ => none) 0 (some h4)) 1 (some h6)) 2 (some h8)) 3 (some h10))))))), (h2, .inr (6, [.ref h3, .int 0])), (h3, .inl (k1, 64, .inl (fun _ => 0))), (h4, .inr (6, [.ref h5, .int 0])), (h5, .inl (k2, 64, .inl (fun _ => 0))), (h6, .inr (6, [.ref h7, .int 0])), (h7, .inl (k3, 64, .inl (fun _ => 0))), (h8, .inr (6, [.ref h9, .int 0])), (h9, .inl (k4, 64, .inl (fun _ => 0))), (h10, .inr (6, [.ref h11, .int 0])), (h11, .inl (k5, 64, .inl (fun _ => 0)))] H) (hD : va_D A [(h0, .inr (7, [.ref h1, .ref z0, .ref z1, .ref h2, .ref z2, .ref z3, .int 0, .int 0, .int 0])), (h1, .inl (k0, 4, .inr (.inr (.inr (.inr (va_up (va_up (va_up (va_up (fun _ => none) 0 (some h4)) 1 (some h6)) 2 (some h8)) 3 (some h10))))))), (h2, .inr (6, [.ref h3, .int 0])), (h3, .inl (k1, 64, .inl (fun _ => 0))), (h4, .inr (6, [.ref h5, .int 0])), (h5, .inl (k2, 64, .inl (fun _ => 0))), (h6, .inr (6, [.ref h7, .int 0])), (h7, .inl (k3, 64, .inl (fun _ => 0))), (h8, .inr (6, [.ref h9, .int 0])), (h9, .inl (k4, 64, .inl (fun _ => 0))), (h10, .inr (6, [.ref h11, .int 0])), (h11, .inl (k5, 64, .inl (fun _ => 0)))]) (hl : lv_has ls 8 [(0, .ref h0), (1, .int rp), (2, .int l1), (3, .int l2), (4, .int l3), (5, .int l4), (6, .int l5)]) : W p l e (headSpec wsX3_type ({ frames := 2, cells := 0, slots := 0, locals := 84 })).room s m args below meth c H locs 0 0 (MQ below (va_Qi (fun (r : Int32) (_ : Unit) => r = R) (fun (_ : Unit) (t : State) => va_P (dC, dI) vwCl [(h0, .inr (7, [.ref h1, .ref z0, .ref z1, .ref h2, .ref z2, .ref z3, .int 0, .int 0, .int 0]))] t.heap ∧ va_K (dC, dI) vwCl [(k0, .object "Rewriterope$Text"), (k1, .byte), (k2, .byte), (k3, .byte), (k4, .byte), (k5, .byte)] t ∧ va_D A [(h0, .inr (7, [.ref h1, .ref z0, .ref z1, .ref h2, .ref z2, .ref z3, .int 0, .int 0, .int 0]))]) A) args s 0 0 A) (F0 m 34 ls []) := by
  rcases Int.lt_or_le l1.toInt 0 with r9 | r9
  · obtain rfl : l1 = -1 := Int32.toInt_inj.mp (by rw [show (-1 : Int32).toInt = -1 from by decide]; omega)
    have hR : kz_ct 0 [l2, l3, l4, l5] = R := kz_ct_n.symm.trans hR
    refine lv_aload_n hx hb dX3_type_34 rfl (lv_at hl 0 rfl) ?_
    refine va_get (D := (dC, dI)) (ci := 7) (v := .ref h2) (C := RX3) (T := TX3) (N := 9) hx hb hts (by decide +kernel) hown hK hP 0 rfl rfl 3 (by decide) (hts (.fieldLink RX3 32 "Rewriterope" "work" "LRewriterope$Text;") (by decide +kernel)) (fun _ h9 => h9) rfl dX3_type_35 ?_
    refine lv_iload_n hx hb dX3_type_38 rfl (lv_at hl 2 rfl) ?_
    have hPc := hP.sub (ws' := [(h2, .inr (6, [.ref h3, .int 0]))]) [2] rfl
    have hDc := hD.sub (ws' := [(h2, .inr (6, [.ref h3, .int 0]))]) [2] (by decide) rfl
    have hKc := hK.sub (tys' := []) [] rfl
    have hFc := va_free (wc := [(h2, .inr (6, [.ref h3, .int 0]))]) hD hS hA [2] rfl
    refine va_callv (va_runV (As := [.int (-1)]) (rest := []) ⟨hx, hb, hml, hown, hts⟩ (kx_X2_add_5 l dC dI h2 h3 H.size) (cwV 1 hts gX3_type_X2_add rfl rfl rfl (by decide +kernel) ⟨Nat.le_of_ble_eq_true rfl, Nat.le_of_ble_eq_true rfl⟩) ⟨fun a U g mk q => by obtain ⟨q0, q1, qP, qK, qD⟩ := q; exact ⟨q0, q1, qP, va_K.moved (u := U) (U := U.calling g mk a) (Vm.Alike.refl U.vm) qK, qD⟩, va_recv hKc hPc (ci := 6) (q0 := 0) rfl rfl, fun U hU hW => ⟨rfl, by rw [hU], by rw [hU]; exact hPc, va_K.moved hW.alike hKc, hDc.weaken (fun _ _ _ _ => trivial)⟩⟩ rfl rfl hl.1 rfl (lv_room (Nat.le_of_ble_eq_true rfl)) dX3_type_39 ⟨Nat.le_of_ble_eq_true rfl, Nat.le_of_ble_eq_true rfl⟩) hS (fun q _ h => hFc q h) hFc (fun u t H1 locs ht hvm hw hB hz1 hk1 hS => ?_)
    obtain ⟨hP1, hK1, hD1⟩ := hB
    rw [ht] at hP1
    have hK1 := va_K.moved hvm.symm hK1
    obtain ⟨hP, hD⟩ := va_join (wr := [(h0, .inr (7, [.ref h1, .ref z0, .ref z1, .ref h2, .ref z2, .ref z3, .int 0, .int 0, .int 0])), (h1, .inl (k0, 4, .inr (.inr (.inr (.inr (va_up (va_up (va_up (va_up (fun _ => none) 0 (some h4)) 1 (some h6)) 2 (some h8)) 3 (some h10))))))), (h3, .inl (k1, 64, .inl (fun _ => 0))), (h4, .inr (6, [.ref h5, .int 0])), (h5, .inl (k2, 64, .inl (fun _ => 0))), (h6, .inr (6, [.ref h7, .int 0])), (h7, .inl (k3, 64, .inl (fun _ => 0))), (h8, .inr (6, [.ref h9, .int 0])), (h9, .inl (k4, 64, .inl (fun _ => 0))), (h10, .inr (6, [.ref h11, .int 0])), (h11, .inl (k5, 64, .inl (fun _ => 0)))]) (w1 := [(h2, .inr (6, [.ref h3, .int 0]))]) hP hD [2] [0, 1, 3, 4, 5, 6, 7, 8, 9, 10, 11] rfl rfl (by decide) (by decide) hk1 hFc hP1 hD1
    generalize H1 = H at hP hS ⊢
    have hP : va_P (dC, dI) vwCl [(h0, .inr (7, [.ref h1, .ref z0, .ref z1, .ref h2, .ref z2, .ref z3, .int 0, .int 0, .int 0])), (h1, .inl (k0, 4, .inr (.inr (.inr (.inr (va_up (va_up (va_up (va_up (fun _ => none) 0 (some h4)) 1 (some h6)) 2 (some h8)) 3 (some h10))))))), (h3, .inl (k1, 64, .inl (fun _ => 0))), (h4, .inr (6, [.ref h5, .int 0])), (h5, .inl (k2, 64, .inl (fun _ => 0))), (h6, .inr (6, [.ref h7, .int 0])), (h7, .inl (k3, 64, .inl (fun _ => 0))), (h8, .inr (6, [.ref h9, .int 0])), (h9, .inl (k4, 64, .inl (fun _ => 0))), (h10, .inr (6, [.ref h11, .int 0])), (h11, .inl (k5, 64, .inl (fun _ => 0))), (h2, .inr (6, [.ref h3, .int 0]))] H := hP
    have hD : va_D A [(h0, .inr (7, [.ref h1, .ref z0, .ref z1, .ref h2, .ref z2, .ref z3, .int 0, .int 0, .int 0])), (h1, .inl (k0, 4, .inr (.inr (.inr (.inr (va_up (va_up (va_up (va_up (fun _ => none) 0 (some h4)) 1 (some h6)) 2 (some h8)) 3 (some h10))))))), (h3, .inl (k1, 64, .inl (fun _ => 0))), (h4, .inr (6, [.ref h5, .int 0])), (h5, .inl (k2, 64, .inl (fun _ => 0))), (h6, .inr (6, [.ref h7, .int 0])), (h7, .inl (k3, 64, .inl (fun _ => 0))), (h8, .inr (6, [.ref h9, .int 0])), (h9, .inl (k4, 64, .inl (fun _ => 0))), (h10, .inr (6, [.ref h11, .int 0])), (h11, .inl (k5, 64, .inl (fun _ => 0))), (h2, .inr (6, [.ref h3, .int 0]))] := hD
    have hP := hP.sub (ws' := [(h0, .inr (7, [.ref h1, .ref z0, .ref z1, .ref h2, .ref z2, .ref z3, .int 0, .int 0, .int 0])), (h1, .inl (k0, 4, .inr (.inr (.inr (.inr (va_up (va_up (va_up (va_up (fun _ => none) 0 (some h4)) 1 (some h6)) 2 (some h8)) 3 (some h10))))))), (h2, .inr (6, [.ref h3, .int 0])), (h3, .inl (k1, 64, .inl (fun _ => 0))), (h4, .inr (6, [.ref h5, .int 0])), (h5, .inl (k2, 64, .inl (fun _ => 0))), (h6, .inr (6, [.ref h7, .int 0])), (h7, .inl (k3, 64, .inl (fun _ => 0))), (h8, .inr (6, [.ref h9, .int 0])), (h9, .inl (k4, 64, .inl (fun _ => 0))), (h10, .inr (6, [.ref h11, .int 0])), (h11, .inl (k5, 64, .inl (fun _ => 0)))]) [0, 1, 11, 2, 3, 4, 5, 6, 7, 8, 9, 10] rfl
    have hD := hD.sub (ws' := [(h0, .inr (7, [.ref h1, .ref z0, .ref z1, .ref h2, .ref z2, .ref z3, .int 0, .int 0, .int 0])), (h1, .inl (k0, 4, .inr (.inr (.inr (.inr (va_up (va_up (va_up (va_up (fun _ => none) 0 (some h4)) 1 (some h6)) 2 (some h8)) 3 (some h10))))))), (h2, .inr (6, [.ref h3, .int 0])), (h3, .inl (k1, 64, .inl (fun _ => 0))), (h4, .inr (6, [.ref h5, .int 0])), (h5, .inl (k2, 64, .inl (fun _ => 0))), (h6, .inr (6, [.ref h7, .int 0])), (h7, .inl (k3, 64, .inl (fun _ => 0))), (h8, .inr (6, [.ref h9, .int 0])), (h9, .inl (k4, 64, .inl (fun _ => 0))), (h10, .inr (6, [.ref h11, .int 0])), (h11, .inl (k5, 64, .inl (fun _ => 0)))]) [0, 1, 11, 2, 3, 4, 5, 6, 7, 8, 9, 10] (by decide) rfl
    have hK := hK.sub (tys' := [(k0, .object "Rewriterope$Text"), (k1, .byte), (k2, .byte), (k3, .byte), (k4, .byte), (k5, .byte)]) [0, 1, 2, 3, 4, 5] rfl
    have hl := lv_sub hl [0, 1, 3, 4, 5, 6] (show lv_pick [(0, .ref h0), (1, .int rp), (2, .int (-1)), (3, .int l2), (4, .int l3), (5, .int l4), (6, .int l5)] [0, 1, 3, 4, 5, 6] = [(0, .ref h0), (1, .int rp), (3, .int l2), (4, .int l3), (5, .int l4), (6, .int l5)] from rfl)
    exact kx_X3_type_h10 hR rp_l rp_u l2_l l2_u l3_l l3_u l4_l l4_u l5_l l5_u hx hb hr hml hown hts hlocks hA hS hK hP hD hl
  · have l1_l : (0 : Int) ≤ l1.toInt := r9
    have hR : kz_ct 1 [l2, l3, l4, l5] = R := (kz_ct_g l1_l).symm.trans hR
    refine lv_aload_n hx hb dX3_type_34 rfl (lv_at hl 0 rfl) ?_
    refine va_get (D := (dC, dI)) (ci := 7) (v := .ref h2) (C := RX3) (T := TX3) (N := 9) hx hb hts (by decide +kernel) hown hK hP 0 rfl rfl 3 (by decide) (hts (.fieldLink RX3 32 "Rewriterope" "work" "LRewriterope$Text;") (by decide +kernel)) (fun _ h9 => h9) rfl dX3_type_35 ?_
    refine lv_iload_n hx hb dX3_type_38 rfl (lv_at hl 2 rfl) ?_
    have hPc := hP.sub (ws' := [(h2, .inr (6, [.ref h3, .int 0])), (h3, .inl (k1, 64, .inl (fun _ => 0)))]) [2, 3] rfl
    have hDc := hD.sub (ws' := [(h2, .inr (6, [.ref h3, .int 0])), (h3, .inl (k1, 64, .inl (fun _ => 0)))]) [2, 3] (by decide) rfl
    have hKc := hK.sub (tys' := [(k1, .byte)]) [1] rfl
    have hFc := va_free (wc := [(h2, .inr (6, [.ref h3, .int 0])), (h3, .inl (k1, 64, .inl (fun _ => 0)))]) hD hS hA [2, 3] rfl
    refine va_callv (va_runV (As := [.int l1]) (rest := []) ⟨hx, hb, hml, hown, hts⟩ (kx_X2_add_6 l dC dI h2 h3 k1 H.size l1 l1_l l1_u) (cwV 1 hts gX3_type_X2_add rfl rfl rfl (by decide +kernel) ⟨Nat.le_of_ble_eq_true rfl, Nat.le_of_ble_eq_true rfl⟩) ⟨fun a U g mk q => by obtain ⟨q0, q1, qP, qK, qD⟩ := q; exact ⟨q0, q1, qP, va_K.moved (u := U) (U := U.calling g mk a) (Vm.Alike.refl U.vm) qK, qD⟩, va_recv hKc hPc (ci := 6) (q0 := 0) rfl rfl, fun U hU hW => ⟨rfl, by rw [hU], by rw [hU]; exact hPc, va_K.moved hW.alike hKc, hDc.weaken (fun _ _ _ _ => trivial)⟩⟩ rfl rfl hl.1 rfl (lv_room (Nat.le_of_ble_eq_true rfl)) dX3_type_39 ⟨Nat.le_of_ble_eq_true rfl, Nat.le_of_ble_eq_true rfl⟩) hS (fun q _ h => hFc q h) hFc (fun u t H1 locs ht hvm hw hB hz1 hk1 hS => ?_)
    obtain ⟨f101, f101_t, hP1, hK1, hD1⟩ := hB
    rw [ht] at hP1
    have hK1 := va_K.moved hvm.symm hK1
    obtain ⟨hP, hD⟩ := va_join (wr := [(h0, .inr (7, [.ref h1, .ref z0, .ref z1, .ref h2, .ref z2, .ref z3, .int 0, .int 0, .int 0])), (h1, .inl (k0, 4, .inr (.inr (.inr (.inr (va_up (va_up (va_up (va_up (fun _ => none) 0 (some h4)) 1 (some h6)) 2 (some h8)) 3 (some h10))))))), (h4, .inr (6, [.ref h5, .int 0])), (h5, .inl (k2, 64, .inl (fun _ => 0))), (h6, .inr (6, [.ref h7, .int 0])), (h7, .inl (k3, 64, .inl (fun _ => 0))), (h8, .inr (6, [.ref h9, .int 0])), (h9, .inl (k4, 64, .inl (fun _ => 0))), (h10, .inr (6, [.ref h11, .int 0])), (h11, .inl (k5, 64, .inl (fun _ => 0)))]) (w1 := [(h2, .inr (6, [.ref h3, .int 1])), (h3, .inl (k1, 64, .inl f101))]) hP hD [2, 3] [0, 1, 4, 5, 6, 7, 8, 9, 10, 11] rfl rfl (by decide) (by decide) hk1 hFc hP1 hD1
    generalize H1 = H at hP hS ⊢
    have hP : va_P (dC, dI) vwCl [(h0, .inr (7, [.ref h1, .ref z0, .ref z1, .ref h2, .ref z2, .ref z3, .int 0, .int 0, .int 0])), (h1, .inl (k0, 4, .inr (.inr (.inr (.inr (va_up (va_up (va_up (va_up (fun _ => none) 0 (some h4)) 1 (some h6)) 2 (some h8)) 3 (some h10))))))), (h4, .inr (6, [.ref h5, .int 0])), (h5, .inl (k2, 64, .inl (fun _ => 0))), (h6, .inr (6, [.ref h7, .int 0])), (h7, .inl (k3, 64, .inl (fun _ => 0))), (h8, .inr (6, [.ref h9, .int 0])), (h9, .inl (k4, 64, .inl (fun _ => 0))), (h10, .inr (6, [.ref h11, .int 0])), (h11, .inl (k5, 64, .inl (fun _ => 0))), (h2, .inr (6, [.ref h3, .int 1])), (h3, .inl (k1, 64, .inl f101))] H := hP
    have hD : va_D A [(h0, .inr (7, [.ref h1, .ref z0, .ref z1, .ref h2, .ref z2, .ref z3, .int 0, .int 0, .int 0])), (h1, .inl (k0, 4, .inr (.inr (.inr (.inr (va_up (va_up (va_up (va_up (fun _ => none) 0 (some h4)) 1 (some h6)) 2 (some h8)) 3 (some h10))))))), (h4, .inr (6, [.ref h5, .int 0])), (h5, .inl (k2, 64, .inl (fun _ => 0))), (h6, .inr (6, [.ref h7, .int 0])), (h7, .inl (k3, 64, .inl (fun _ => 0))), (h8, .inr (6, [.ref h9, .int 0])), (h9, .inl (k4, 64, .inl (fun _ => 0))), (h10, .inr (6, [.ref h11, .int 0])), (h11, .inl (k5, 64, .inl (fun _ => 0))), (h2, .inr (6, [.ref h3, .int 1])), (h3, .inl (k1, 64, .inl f101))] := hD
    have hP := hP.sub (ws' := [(h0, .inr (7, [.ref h1, .ref z0, .ref z1, .ref h2, .ref z2, .ref z3, .int 0, .int 0, .int 0])), (h1, .inl (k0, 4, .inr (.inr (.inr (.inr (va_up (va_up (va_up (va_up (fun _ => none) 0 (some h4)) 1 (some h6)) 2 (some h8)) 3 (some h10))))))), (h2, .inr (6, [.ref h3, .int 1])), (h3, .inl (k1, 64, .inl f101)), (h4, .inr (6, [.ref h5, .int 0])), (h5, .inl (k2, 64, .inl (fun _ => 0))), (h6, .inr (6, [.ref h7, .int 0])), (h7, .inl (k3, 64, .inl (fun _ => 0))), (h8, .inr (6, [.ref h9, .int 0])), (h9, .inl (k4, 64, .inl (fun _ => 0))), (h10, .inr (6, [.ref h11, .int 0])), (h11, .inl (k5, 64, .inl (fun _ => 0)))]) [0, 1, 10, 11, 2, 3, 4, 5, 6, 7, 8, 9] rfl
    have hD := hD.sub (ws' := [(h0, .inr (7, [.ref h1, .ref z0, .ref z1, .ref h2, .ref z2, .ref z3, .int 0, .int 0, .int 0])), (h1, .inl (k0, 4, .inr (.inr (.inr (.inr (va_up (va_up (va_up (va_up (fun _ => none) 0 (some h4)) 1 (some h6)) 2 (some h8)) 3 (some h10))))))), (h2, .inr (6, [.ref h3, .int 1])), (h3, .inl (k1, 64, .inl f101)), (h4, .inr (6, [.ref h5, .int 0])), (h5, .inl (k2, 64, .inl (fun _ => 0))), (h6, .inr (6, [.ref h7, .int 0])), (h7, .inl (k3, 64, .inl (fun _ => 0))), (h8, .inr (6, [.ref h9, .int 0])), (h9, .inl (k4, 64, .inl (fun _ => 0))), (h10, .inr (6, [.ref h11, .int 0])), (h11, .inl (k5, 64, .inl (fun _ => 0)))]) [0, 1, 10, 11, 2, 3, 4, 5, 6, 7, 8, 9] (by decide) rfl
    have hK := hK.sub (tys' := [(k0, .object "Rewriterope$Text"), (k1, .byte), (k2, .byte), (k3, .byte), (k4, .byte), (k5, .byte)]) [0, 1, 2, 3, 4, 5] rfl
    have hl := lv_sub hl [0, 1, 3, 4, 5, 6] (show lv_pick [(0, .ref h0), (1, .int rp), (2, .int l1), (3, .int l2), (4, .int l3), (5, .int l4), (6, .int l5)] [0, 1, 3, 4, 5, 6] = [(0, .ref h0), (1, .int rp), (3, .int l2), (4, .int l3), (5, .int l4), (6, .int l5)] from rfl)
    exact kx_X3_type_h11 f101_t hR rp_l rp_u l2_l l2_u l3_l l3_u l4_l l4_u l5_l l5_u hx hb hr hml hown hts hlocks hA hS hK hP hD hl
set_option maxHeartbeats 4000000 in
set_option maxRecDepth 100000 in
theorem kx_X3_needRope_4 (l : Launch) (dC : Nat → ClassId) (dI : Nat → Nat → Nat) (sz : Nat) (i0 : Int32) (i0_l : (0 : Int) ≤ i0.toInt) (i0_u : i0.toInt ≤ (3 : Int)) : Met l yX3_needRope wsX3_needRope ({ frames := 0, cells := 0, slots := 0, locals := 0 }) (va_Pc [.int i0] (fun U => U.heap.size = sz ∧ va_P (dC, dI) vwCl [] U.heap ∧ va_K (dC, dI) vwCl [] U ∧ va_D (fun _ => True) [])) (va_Qv (fun _ : Unit => True) (fun (_ : Unit) (t : State) => va_P (dC, dI) vwCl [] t.heap ∧ va_K (dC, dI) vwCl [] t ∧ va_D (va_A [] sz) []) (va_A [] sz)) 0 0 (va_A [] sz) := by
  refine Met.ofW (cc := cX3_needRope) (maxL := 1) (ret := none) (by decide) rfl ?_
  intro p e s m args below meth c s₁ B hml hv
  obtain ⟨rfl, hsz, hP, hK, hD0⟩ := hv
  have hx := B.exec
  have hb := B.bytes
  have hr := B.returns
  have hts := atoms_spec (ws := wsX3_needRope) B.pre
  have hown : s.vm.findClass RX3 = some m.cls := findClass_of_methodNamed B.named
  have hlocks := B.notSynchronized
  subst hsz
  have hD := hD0.self (sz := s.heap.size)
  generalize hAe : va_A [] s.heap.size = A at hD ⊢
  have hA : ∀ q : Nat, s.heap.size ≤ q → A q := fun q h => by rw [← hAe]; exact Or.inr h
  have hS : va_S A s.heap s.heap [] := va_S.rf
  have hP : va_P (dC, dI) vwCl [] s.heap := hP
  have hl := lv_entry ([.int i0]) (n := 1) (Nat.le_of_ble_eq_true rfl)
  rw [lg_entry_eq]
  generalize (lg_sl ([.int i0]) ++ List.replicate (1 - (lg_sl ([.int i0])).length) Slot.unset).toArray = ls at hl ⊢
  have hl : lv_has ls 1 [(0, .int i0)] := hl
  refine lv_iload_n hx hb dX3_needRope_0 rfl (lv_at hl 0 rfl) ?_
  refine lv_if_lt (tgt := 9) hx hb dX3_needRope_1 (by decide) (fun c9 => absurd c9 (fun c8 => absurd (Int32.lt_iff_toInt_lt.mp c8) (by rw [show (0 : Int32).toInt = 0 from by decide]; omega))) (fun _ => ?_)
  refine lv_iload_n hx hb dX3_needRope_4 rfl (lv_at hl 0 rfl) ?_
  refine lv_iconst (v := 4) hx hb dX3_needRope_5 (by decide) ?_
  refine lv_icmp_lt (tgt := 20) hx hb dX3_needRope_6 (by decide) (fun _ => ?_) (fun c9 => absurd (Int32.lt_iff_toInt_lt.mpr (by rw [show (4 : Int32).toInt = 4 from by decide]; omega)) c9)
  exact W.vret hx hb hr (fun t ht hW => ⟨⟨(), rfl, trivial, by rw [ht]; exact hP, va_K.moved hW.alike hK, hD⟩, hS.F ht⟩) hS.2.2 dX3_needRope_20
set_option maxHeartbeats 4000000 in
set_option maxRecDepth 100000 in
theorem kx_X3_needLetterOrNone_1 (l : Launch) (dC : Nat → ClassId) (dI : Nat → Nat → Nat) (sz : Nat) (i0 : Int32) (i0_l : ((-1) : Int) ≤ i0.toInt) (i0_u : i0.toInt ≤ (3 : Int)) : Met l yX3_needLetterOrNone wsX3_needLetterOrNone ({ frames := 0, cells := 0, slots := 0, locals := 0 }) (va_Pc [.int i0] (fun U => U.heap.size = sz ∧ va_P (dC, dI) vwCl [] U.heap ∧ va_K (dC, dI) vwCl [] U ∧ va_D (fun _ => True) [])) (va_Qv (fun _ : Unit => True) (fun (_ : Unit) (t : State) => va_P (dC, dI) vwCl [] t.heap ∧ va_K (dC, dI) vwCl [] t ∧ va_D (va_A [] sz) []) (va_A [] sz)) 0 0 (va_A [] sz) := by
  refine Met.ofW (cc := cX3_needLetterOrNone) (maxL := 1) (ret := none) (by decide) rfl ?_
  intro p e s m args below meth c s₁ B hml hv
  obtain ⟨rfl, hsz, hP, hK, hD0⟩ := hv
  have hx := B.exec
  have hb := B.bytes
  have hr := B.returns
  have hts := atoms_spec (ws := wsX3_needLetterOrNone) B.pre
  have hown : s.vm.findClass RX3 = some m.cls := findClass_of_methodNamed B.named
  have hlocks := B.notSynchronized
  subst hsz
  have hD := hD0.self (sz := s.heap.size)
  generalize hAe : va_A [] s.heap.size = A at hD ⊢
  have hA : ∀ q : Nat, s.heap.size ≤ q → A q := fun q h => by rw [← hAe]; exact Or.inr h
  have hS : va_S A s.heap s.heap [] := va_S.rf
  have hP : va_P (dC, dI) vwCl [] s.heap := hP
  have hl := lv_entry ([.int i0]) (n := 1) (Nat.le_of_ble_eq_true rfl)
  rw [lg_entry_eq]
  generalize (lg_sl ([.int i0]) ++ List.replicate (1 - (lg_sl ([.int i0])).length) Slot.unset).toArray = ls at hl ⊢
  have hl : lv_has ls 1 [(0, .int i0)] := hl
  refine lv_iload_n hx hb dX3_needLetterOrNone_0 rfl (lv_at hl 0 rfl) ?_
  refine lv_iconst (v := (-1)) hx hb dX3_needLetterOrNone_1 (by decide) ?_
  refine lv_icmp_lt (tgt := 10) hx hb dX3_needLetterOrNone_2 (by decide) (fun c9 => absurd c9 (fun c8 => absurd (Int32.lt_iff_toInt_lt.mp c8) (by rw [show ((-1) : Int32).toInt = (-1) from by decide]; omega))) (fun _ => ?_)
  refine lv_iload_n hx hb dX3_needLetterOrNone_5 rfl (lv_at hl 0 rfl) ?_
  refine lv_iconst (v := 4) hx hb dX3_needLetterOrNone_6 (by decide) ?_
  refine lv_icmp_lt (tgt := 21) hx hb dX3_needLetterOrNone_7 (by decide) (fun _ => ?_) (fun c9 => absurd (Int32.lt_iff_toInt_lt.mpr (by rw [show (4 : Int32).toInt = 4 from by decide]; omega)) c9)
  exact W.vret hx hb hr (fun t ht hW => ⟨⟨(), rfl, trivial, by rw [ht]; exact hP, va_K.moved hW.alike hK, hD⟩, hS.F ht⟩) hS.2.2 dX3_needLetterOrNone_21
set_option maxHeartbeats 8000000 in
set_option maxRecDepth 100000 in
theorem kx_X3_type_g (l : Launch) (dC : Nat → ClassId) (dI : Nat → Nat → Nat) (h0 : Nat) (h1 : Nat) (h2 : Nat) (h3 : Nat) (h4 : Nat) (h5 : Nat) (h6 : Nat) (h7 : Nat) (h8 : Nat) (h9 : Nat) (h10 : Nat) (h11 : Nat) (z0 : Nat) (z1 : Nat) (z2 : Nat) (z3 : Nat) (k0 : ClassId) (k1 : ClassId) (k2 : ClassId) (k3 : ClassId) (k4 : ClassId) (k5 : ClassId) (sz : Nat) (rp l1 l2 l3 l4 l5 R : Int32) (hR : kz_ct 0 [l1, l2, l3, l4, l5] = R) (rp_l : (0 : Int) ≤ rp.toInt) (rp_u : rp.toInt ≤ (3 : Int)) (l1_l : (-1 : Int) ≤ l1.toInt) (l1_u : l1.toInt ≤ (3 : Int)) (l2_l : (-1 : Int) ≤ l2.toInt) (l2_u : l2.toInt ≤ (3 : Int)) (l3_l : (-1 : Int) ≤ l3.toInt) (l3_u : l3.toInt ≤ (3 : Int)) (l4_l : (-1 : Int) ≤ l4.toInt) (l4_u : l4.toInt ≤ (3 : Int)) (l5_l : (-1 : Int) ≤ l5.toInt) (l5_u : l5.toInt ≤ (3 : Int)) : Met l yX3_type wsX3_type ({ frames := 2, cells := 0, slots := 0, locals := 84 }) (va_Pc [.ref h0, .int rp, .int l1, .int l2, .int l3, .int l4, .int l5] (fun U => U.heap.size = sz ∧ va_P (dC, dI) vwCl [(h0, .inr (7, [.ref h1, .ref z0, .ref z1, .ref h2, .ref z2, .ref z3, .int 0, .int 0, .int 0])), (h1, .inl (k0, 4, .inr (.inr (.inr (.inr (va_up (va_up (va_up (va_up (fun _ => none) 0 (some h4)) 1 (some h6)) 2 (some h8)) 3 (some h10))))))), (h2, .inr (6, [.ref h3, .int 0])), (h3, .inl (k1, 64, .inl (fun _ => 0))), (h4, .inr (6, [.ref h5, .int 0])), (h5, .inl (k2, 64, .inl (fun _ => 0))), (h6, .inr (6, [.ref h7, .int 0])), (h7, .inl (k3, 64, .inl (fun _ => 0))), (h8, .inr (6, [.ref h9, .int 0])), (h9, .inl (k4, 64, .inl (fun _ => 0))), (h10, .inr (6, [.ref h11, .int 0])), (h11, .inl (k5, 64, .inl (fun _ => 0)))] U.heap ∧ va_K (dC, dI) vwCl [(k0, .object "Rewriterope$Text"), (k1, .byte), (k2, .byte), (k3, .byte), (k4, .byte), (k5, .byte)] U ∧ va_D (fun _ => True) [(h0, .inr (7, [.ref h1, .ref z0, .ref z1, .ref h2, .ref z2, .ref z3, .int 0, .int 0, .int 0])), (h1, .inl (k0, 4, .inr (.inr (.inr (.inr (va_up (va_up (va_up (va_up (fun _ => none) 0 (some h4)) 1 (some h6)) 2 (some h8)) 3 (some h10))))))), (h2, .inr (6, [.ref h3, .int 0])), (h3, .inl (k1, 64, .inl (fun _ => 0))), (h4, .inr (6, [.ref h5, .int 0])), (h5, .inl (k2, 64, .inl (fun _ => 0))), (h6, .inr (6, [.ref h7, .int 0])), (h7, .inl (k3, 64, .inl (fun _ => 0))), (h8, .inr (6, [.ref h9, .int 0])), (h9, .inl (k4, 64, .inl (fun _ => 0))), (h10, .inr (6, [.ref h11, .int 0])), (h11, .inl (k5, 64, .inl (fun _ => 0)))])) (va_Qi (fun (r : Int32) (_ : Unit) => r = R) (fun (_ : Unit) (t : State) => va_P (dC, dI) vwCl [(h0, .inr (7, [.ref h1, .ref z0, .ref z1, .ref h2, .ref z2, .ref z3, .int 0, .int 0, .int 0]))] t.heap ∧ va_K (dC, dI) vwCl [(k0, .object "Rewriterope$Text"), (k1, .byte), (k2, .byte), (k3, .byte), (k4, .byte), (k5, .byte)] t ∧ va_D (va_A [(h0, .inr (7, [.ref h1, .ref z0, .ref z1, .ref h2, .ref z2, .ref z3, .int 0, .int 0, .int 0])), (h1, .inl (k0, 4, .inr (.inr (.inr (.inr (va_up (va_up (va_up (va_up (fun _ => none) 0 (some h4)) 1 (some h6)) 2 (some h8)) 3 (some h10))))))), (h2, .inr (6, [.ref h3, .int 0])), (h3, .inl (k1, 64, .inl (fun _ => 0))), (h4, .inr (6, [.ref h5, .int 0])), (h5, .inl (k2, 64, .inl (fun _ => 0))), (h6, .inr (6, [.ref h7, .int 0])), (h7, .inl (k3, 64, .inl (fun _ => 0))), (h8, .inr (6, [.ref h9, .int 0])), (h9, .inl (k4, 64, .inl (fun _ => 0))), (h10, .inr (6, [.ref h11, .int 0])), (h11, .inl (k5, 64, .inl (fun _ => 0)))] sz) [(h0, .inr (7, [.ref h1, .ref z0, .ref z1, .ref h2, .ref z2, .ref z3, .int 0, .int 0, .int 0]))]) (va_A [(h0, .inr (7, [.ref h1, .ref z0, .ref z1, .ref h2, .ref z2, .ref z3, .int 0, .int 0, .int 0])), (h1, .inl (k0, 4, .inr (.inr (.inr (.inr (va_up (va_up (va_up (va_up (fun _ => none) 0 (some h4)) 1 (some h6)) 2 (some h8)) 3 (some h10))))))), (h2, .inr (6, [.ref h3, .int 0])), (h3, .inl (k1, 64, .inl (fun _ => 0))), (h4, .inr (6, [.ref h5, .int 0])), (h5, .inl (k2, 64, .inl (fun _ => 0))), (h6, .inr (6, [.ref h7, .int 0])), (h7, .inl (k3, 64, .inl (fun _ => 0))), (h8, .inr (6, [.ref h9, .int 0])), (h9, .inl (k4, 64, .inl (fun _ => 0))), (h10, .inr (6, [.ref h11, .int 0])), (h11, .inl (k5, 64, .inl (fun _ => 0)))] sz)) 0 0 (va_A [(h0, .inr (7, [.ref h1, .ref z0, .ref z1, .ref h2, .ref z2, .ref z3, .int 0, .int 0, .int 0])), (h1, .inl (k0, 4, .inr (.inr (.inr (.inr (va_up (va_up (va_up (va_up (fun _ => none) 0 (some h4)) 1 (some h6)) 2 (some h8)) 3 (some h10))))))), (h2, .inr (6, [.ref h3, .int 0])), (h3, .inl (k1, 64, .inl (fun _ => 0))), (h4, .inr (6, [.ref h5, .int 0])), (h5, .inl (k2, 64, .inl (fun _ => 0))), (h6, .inr (6, [.ref h7, .int 0])), (h7, .inl (k3, 64, .inl (fun _ => 0))), (h8, .inr (6, [.ref h9, .int 0])), (h9, .inl (k4, 64, .inl (fun _ => 0))), (h10, .inr (6, [.ref h11, .int 0])), (h11, .inl (k5, 64, .inl (fun _ => 0)))] sz) := by
  refine Met.ofW (cc := cX3_type) (maxL := 8) (ret := (some .int)) (by decide) rfl ?_
  intro p e s m args below meth c s₁ B hml hv
  obtain ⟨rfl, hsz, hP, hK, hD0⟩ := hv
  have hx := B.exec
  have hb := B.bytes
  have hr := B.returns
  have hts := atoms_spec (ws := wsX3_type) B.pre
  have hown : s.vm.findClass RX3 = some m.cls := findClass_of_methodNamed B.named
  have hlocks := B.notSynchronized
  subst hsz
  have hD := hD0.self (sz := s.heap.size)
  generalize hAe : va_A [(h0, .inr (7, [.ref h1, .ref z0, .ref z1, .ref h2, .ref z2, .ref z3, .int 0, .int 0, .int 0])), (h1, .inl (k0, 4, .inr (.inr (.inr (.inr (va_up (va_up (va_up (va_up (fun _ => none) 0 (some h4)) 1 (some h6)) 2 (some h8)) 3 (some h10))))))), (h2, .inr (6, [.ref h3, .int 0])), (h3, .inl (k1, 64, .inl (fun _ => 0))), (h4, .inr (6, [.ref h5, .int 0])), (h5, .inl (k2, 64, .inl (fun _ => 0))), (h6, .inr (6, [.ref h7, .int 0])), (h7, .inl (k3, 64, .inl (fun _ => 0))), (h8, .inr (6, [.ref h9, .int 0])), (h9, .inl (k4, 64, .inl (fun _ => 0))), (h10, .inr (6, [.ref h11, .int 0])), (h11, .inl (k5, 64, .inl (fun _ => 0)))] s.heap.size = A at hD ⊢
  have hA : ∀ q : Nat, s.heap.size ≤ q → A q := fun q h => by rw [← hAe]; exact Or.inr h
  have hS : va_S A s.heap s.heap [] := va_S.rf
  have hP : va_P (dC, dI) vwCl [(h0, .inr (7, [.ref h1, .ref z0, .ref z1, .ref h2, .ref z2, .ref z3, .int 0, .int 0, .int 0])), (h1, .inl (k0, 4, .inr (.inr (.inr (.inr (va_up (va_up (va_up (va_up (fun _ => none) 0 (some h4)) 1 (some h6)) 2 (some h8)) 3 (some h10))))))), (h2, .inr (6, [.ref h3, .int 0])), (h3, .inl (k1, 64, .inl (fun _ => 0))), (h4, .inr (6, [.ref h5, .int 0])), (h5, .inl (k2, 64, .inl (fun _ => 0))), (h6, .inr (6, [.ref h7, .int 0])), (h7, .inl (k3, 64, .inl (fun _ => 0))), (h8, .inr (6, [.ref h9, .int 0])), (h9, .inl (k4, 64, .inl (fun _ => 0))), (h10, .inr (6, [.ref h11, .int 0])), (h11, .inl (k5, 64, .inl (fun _ => 0)))] s.heap := hP
  have hl := lv_entry ([.ref h0, .int rp, .int l1, .int l2, .int l3, .int l4, .int l5]) (n := 8) (Nat.le_of_ble_eq_true rfl)
  rw [lg_entry_eq]
  generalize (lg_sl ([.ref h0, .int rp, .int l1, .int l2, .int l3, .int l4, .int l5]) ++ List.replicate (8 - (lg_sl ([.ref h0, .int rp, .int l1, .int l2, .int l3, .int l4, .int l5])).length) Slot.unset).toArray = ls at hl ⊢
  have hl : lv_has ls 8 [(0, .ref h0), (1, .int rp), (2, .int l1), (3, .int l2), (4, .int l3), (5, .int l4), (6, .int l5)] := hl
  refine lv_iload_n hx hb dX3_type_0 rfl (lv_at hl 1 rfl) ?_
  have hPc := hP.sub (ws' := []) [] rfl
  have hDc := hD.sub (ws' := []) [] (by decide) rfl
  have hKc := hK.sub (tys' := []) [] rfl
  have hFc := va_free (wc := []) hD hS hA [] rfl
  refine va_callv (va_runS (As := [.int rp]) (rest := []) ⟨hx, hb, hml, hown, hts⟩ (kx_X3_needRope_4 l dC dI s.heap.size rp rp_l rp_u) (cwS 1 hts gX3_type_X3_needRope rfl rfl rfl (by decide +kernel) ⟨Nat.le_of_ble_eq_true rfl, Nat.le_of_ble_eq_true rfl⟩) ⟨fun a U g mk q => by obtain ⟨q0, q1, qP, qK, qD⟩ := q; exact ⟨q0, q1, qP, va_K.moved (u := U) (U := U.calling g mk a) (Vm.Alike.refl U.vm) qK, qD⟩, fun U hU hW => ⟨rfl, by rw [hU], by rw [hU]; exact hPc, va_K.moved hW.alike hKc, hDc.weaken (fun _ _ _ _ => trivial)⟩⟩ rfl rfl hl.1 rfl (lv_room (Nat.le_of_ble_eq_true rfl)) dX3_type_1 ⟨Nat.le_of_ble_eq_true rfl, Nat.le_of_ble_eq_true rfl⟩) hS (fun q _ h => hFc q h) hFc (fun u t H1 locs ht hvm hw hB hz1 hk1 hS => ?_)
  obtain ⟨hP1, hK1, hD1⟩ := hB
  rw [ht] at hP1
  have hK1 := va_K.moved hvm.symm hK1
  obtain ⟨hP, hD⟩ := va_join (wr := [(h0, .inr (7, [.ref h1, .ref z0, .ref z1, .ref h2, .ref z2, .ref z3, .int 0, .int 0, .int 0])), (h1, .inl (k0, 4, .inr (.inr (.inr (.inr (va_up (va_up (va_up (va_up (fun _ => none) 0 (some h4)) 1 (some h6)) 2 (some h8)) 3 (some h10))))))), (h2, .inr (6, [.ref h3, .int 0])), (h3, .inl (k1, 64, .inl (fun _ => 0))), (h4, .inr (6, [.ref h5, .int 0])), (h5, .inl (k2, 64, .inl (fun _ => 0))), (h6, .inr (6, [.ref h7, .int 0])), (h7, .inl (k3, 64, .inl (fun _ => 0))), (h8, .inr (6, [.ref h9, .int 0])), (h9, .inl (k4, 64, .inl (fun _ => 0))), (h10, .inr (6, [.ref h11, .int 0])), (h11, .inl (k5, 64, .inl (fun _ => 0)))]) (w1 := []) hP hD [] [0, 1, 2, 3, 4, 5, 6, 7, 8, 9, 10, 11] rfl rfl (by decide) (by decide) hk1 hFc hP1 hD1
  generalize H1 = H at hP hS ⊢
  have hP : va_P (dC, dI) vwCl [(h0, .inr (7, [.ref h1, .ref z0, .ref z1, .ref h2, .ref z2, .ref z3, .int 0, .int 0, .int 0])), (h1, .inl (k0, 4, .inr (.inr (.inr (.inr (va_up (va_up (va_up (va_up (fun _ => none) 0 (some h4)) 1 (some h6)) 2 (some h8)) 3 (some h10))))))), (h2, .inr (6, [.ref h3, .int 0])), (h3, .inl (k1, 64, .inl (fun _ => 0))), (h4, .inr (6, [.ref h5, .int 0])), (h5, .inl (k2, 64, .inl (fun _ => 0))), (h6, .inr (6, [.ref h7, .int 0])), (h7, .inl (k3, 64, .inl (fun _ => 0))), (h8, .inr (6, [.ref h9, .int 0])), (h9, .inl (k4, 64, .inl (fun _ => 0))), (h10, .inr (6, [.ref h11, .int 0])), (h11, .inl (k5, 64, .inl (fun _ => 0)))] H := hP
  have hD : va_D A [(h0, .inr (7, [.ref h1, .ref z0, .ref z1, .ref h2, .ref z2, .ref z3, .int 0, .int 0, .int 0])), (h1, .inl (k0, 4, .inr (.inr (.inr (.inr (va_up (va_up (va_up (va_up (fun _ => none) 0 (some h4)) 1 (some h6)) 2 (some h8)) 3 (some h10))))))), (h2, .inr (6, [.ref h3, .int 0])), (h3, .inl (k1, 64, .inl (fun _ => 0))), (h4, .inr (6, [.ref h5, .int 0])), (h5, .inl (k2, 64, .inl (fun _ => 0))), (h6, .inr (6, [.ref h7, .int 0])), (h7, .inl (k3, 64, .inl (fun _ => 0))), (h8, .inr (6, [.ref h9, .int 0])), (h9, .inl (k4, 64, .inl (fun _ => 0))), (h10, .inr (6, [.ref h11, .int 0])), (h11, .inl (k5, 64, .inl (fun _ => 0)))] := hD
  refine lv_iload_n hx hb dX3_type_4 rfl (lv_at hl 2 rfl) ?_
  have hPc := hP.sub (ws' := []) [] rfl
  have hDc := hD.sub (ws' := []) [] (by decide) rfl
  have hKc := hK.sub (tys' := []) [] rfl
  have hFc := va_free (wc := []) hD hS hA [] rfl
  refine va_callv (va_runS (As := [.int l1]) (rest := []) ⟨hx, hb, hml, hown, hts⟩ (kx_X3_needLetterOrNone_1 l dC dI H.size l1 l1_l l1_u) (cwS 1 hts gX3_type_X3_needLetterOrNone rfl rfl rfl (by decide +kernel) ⟨Nat.le_of_ble_eq_true rfl, Nat.le_of_ble_eq_true rfl⟩) ⟨fun a U g mk q => by obtain ⟨q0, q1, qP, qK, qD⟩ := q; exact ⟨q0, q1, qP, va_K.moved (u := U) (U := U.calling g mk a) (Vm.Alike.refl U.vm) qK, qD⟩, fun U hU hW => ⟨rfl, by rw [hU], by rw [hU]; exact hPc, va_K.moved hW.alike hKc, hDc.weaken (fun _ _ _ _ => trivial)⟩⟩ rfl rfl hl.1 rfl (lv_room (Nat.le_of_ble_eq_true rfl)) dX3_type_5 ⟨Nat.le_of_ble_eq_true rfl, Nat.le_of_ble_eq_true rfl⟩) hS (fun q _ h => hFc q h) hFc (fun u t H1 locs ht hvm hw hB hz1 hk1 hS => ?_)
  obtain ⟨hP1, hK1, hD1⟩ := hB
  rw [ht] at hP1
  have hK1 := va_K.moved hvm.symm hK1
  obtain ⟨hP, hD⟩ := va_join (wr := [(h0, .inr (7, [.ref h1, .ref z0, .ref z1, .ref h2, .ref z2, .ref z3, .int 0, .int 0, .int 0])), (h1, .inl (k0, 4, .inr (.inr (.inr (.inr (va_up (va_up (va_up (va_up (fun _ => none) 0 (some h4)) 1 (some h6)) 2 (some h8)) 3 (some h10))))))), (h2, .inr (6, [.ref h3, .int 0])), (h3, .inl (k1, 64, .inl (fun _ => 0))), (h4, .inr (6, [.ref h5, .int 0])), (h5, .inl (k2, 64, .inl (fun _ => 0))), (h6, .inr (6, [.ref h7, .int 0])), (h7, .inl (k3, 64, .inl (fun _ => 0))), (h8, .inr (6, [.ref h9, .int 0])), (h9, .inl (k4, 64, .inl (fun _ => 0))), (h10, .inr (6, [.ref h11, .int 0])), (h11, .inl (k5, 64, .inl (fun _ => 0)))]) (w1 := []) hP hD [] [0, 1, 2, 3, 4, 5, 6, 7, 8, 9, 10, 11] rfl rfl (by decide) (by decide) hk1 hFc hP1 hD1
  generalize H1 = H at hP hS ⊢
  have hP : va_P (dC, dI) vwCl [(h0, .inr (7, [.ref h1, .ref z0, .ref z1, .ref h2, .ref z2, .ref z3, .int 0, .int 0, .int 0])), (h1, .inl (k0, 4, .inr (.inr (.inr (.inr (va_up (va_up (va_up (va_up (fun _ => none) 0 (some h4)) 1 (some h6)) 2 (some h8)) 3 (some h10))))))), (h2, .inr (6, [.ref h3, .int 0])), (h3, .inl (k1, 64, .inl (fun _ => 0))), (h4, .inr (6, [.ref h5, .int 0])), (h5, .inl (k2, 64, .inl (fun _ => 0))), (h6, .inr (6, [.ref h7, .int 0])), (h7, .inl (k3, 64, .inl (fun _ => 0))), (h8, .inr (6, [.ref h9, .int 0])), (h9, .inl (k4, 64, .inl (fun _ => 0))), (h10, .inr (6, [.ref h11, .int 0])), (h11, .inl (k5, 64, .inl (fun _ => 0)))] H := hP
  have hD : va_D A [(h0, .inr (7, [.ref h1, .ref z0, .ref z1, .ref h2, .ref z2, .ref z3, .int 0, .int 0, .int 0])), (h1, .inl (k0, 4, .inr (.inr (.inr (.inr (va_up (va_up (va_up (va_up (fun _ => none) 0 (some h4)) 1 (some h6)) 2 (some h8)) 3 (some h10))))))), (h2, .inr (6, [.ref h3, .int 0])), (h3, .inl (k1, 64, .inl (fun _ => 0))), (h4, .inr (6, [.ref h5, .int 0])), (h5, .inl (k2, 64, .inl (fun _ => 0))), (h6, .inr (6, [.ref h7, .int 0])), (h7, .inl (k3, 64, .inl (fun _ => 0))), (h8, .inr (6, [.ref h9, .int 0])), (h9, .inl (k4, 64, .inl (fun _ => 0))), (h10, .inr (6, [.ref h11, .int 0])), (h11, .inl (k5, 64, .inl (fun _ => 0)))] := hD
  refine lv_iload_n hx hb dX3_type_8 rfl (lv_at hl 3 rfl) ?_
  have hPc := hP.sub (ws' := []) [] rfl
  have hDc := hD.sub (ws' := []) [] (by decide) rfl
  have hKc := hK.sub (tys' := []) [] rfl
  have hFc := va_free (wc := []) hD hS hA [] rfl
  refine va_callv (va_runS (As := [.int l2]) (rest := []) ⟨hx, hb, hml, hown, hts⟩ (kx_X3_needLetterOrNone_1 l dC dI H.size l2 l2_l l2_u) (cwS 1 hts gX3_type_X3_needLetterOrNone rfl rfl rfl (by decide +kernel) ⟨Nat.le_of_ble_eq_true rfl, Nat.le_of_ble_eq_true rfl⟩) ⟨fun a U g mk q => by obtain ⟨q0, q1, qP, qK, qD⟩ := q; exact ⟨q0, q1, qP, va_K.moved (u := U) (U := U.calling g mk a) (Vm.Alike.refl U.vm) qK, qD⟩, fun U hU hW => ⟨rfl, by rw [hU], by rw [hU]; exact hPc, va_K.moved hW.alike hKc, hDc.weaken (fun _ _ _ _ => trivial)⟩⟩ rfl rfl hl.1 rfl (lv_room (Nat.le_of_ble_eq_true rfl)) dX3_type_9 ⟨Nat.le_of_ble_eq_true rfl, Nat.le_of_ble_eq_true rfl⟩) hS (fun q _ h => hFc q h) hFc (fun u t H1 locs ht hvm hw hB hz1 hk1 hS => ?_)
  obtain ⟨hP1, hK1, hD1⟩ := hB
  rw [ht] at hP1
  have hK1 := va_K.moved hvm.symm hK1
  obtain ⟨hP, hD⟩ := va_join (wr := [(h0, .inr (7, [.ref h1, .ref z0, .ref z1, .ref h2, .ref z2, .ref z3, .int 0, .int 0, .int 0])), (h1, .inl (k0, 4, .inr (.inr (.inr (.inr (va_up (va_up (va_up (va_up (fun _ => none) 0 (some h4)) 1 (some h6)) 2 (some h8)) 3 (some h10))))))), (h2, .inr (6, [.ref h3, .int 0])), (h3, .inl (k1, 64, .inl (fun _ => 0))), (h4, .inr (6, [.ref h5, .int 0])), (h5, .inl (k2, 64, .inl (fun _ => 0))), (h6, .inr (6, [.ref h7, .int 0])), (h7, .inl (k3, 64, .inl (fun _ => 0))), (h8, .inr (6, [.ref h9, .int 0])), (h9, .inl (k4, 64, .inl (fun _ => 0))), (h10, .inr (6, [.ref h11, .int 0])), (h11, .inl (k5, 64, .inl (fun _ => 0)))]) (w1 := []) hP hD [] [0, 1, 2, 3, 4, 5, 6, 7, 8, 9, 10, 11] rfl rfl (by decide) (by decide) hk1 hFc hP1 hD1
  generalize H1 = H at hP hS ⊢
  have hP : va_P (dC, dI) vwCl [(h0, .inr (7, [.ref h1, .ref z0, .ref z1, .ref h2, .ref z2, .ref z3, .int 0, .int 0, .int 0])), (h1, .inl (k0, 4, .inr (.inr (.inr (.inr (va_up (va_up (va_up (va_up (fun _ => none) 0 (some h4)) 1 (some h6)) 2 (some h8)) 3 (some h10))))))), (h2, .inr (6, [.ref h3, .int 0])), (h3, .inl (k1, 64, .inl (fun _ => 0))), (h4, .inr (6, [.ref h5, .int 0])), (h5, .inl (k2, 64, .inl (fun _ => 0))), (h6, .inr (6, [.ref h7, .int 0])), (h7, .inl (k3, 64, .inl (fun _ => 0))), (h8, .inr (6, [.ref h9, .int 0])), (h9, .inl (k4, 64, .inl (fun _ => 0))), (h10, .inr (6, [.ref h11, .int 0])), (h11, .inl (k5, 64, .inl (fun _ => 0)))] H := hP
  have hD : va_D A [(h0, .inr (7, [.ref h1, .ref z0, .ref z1, .ref h2, .ref z2, .ref z3, .int 0, .int 0, .int 0])), (h1, .inl (k0, 4, .inr (.inr (.inr (.inr (va_up (va_up (va_up (va_up (fun _ => none) 0 (some h4)) 1 (some h6)) 2 (some h8)) 3 (some h10))))))), (h2, .inr (6, [.ref h3, .int 0])), (h3, .inl (k1, 64, .inl (fun _ => 0))), (h4, .inr (6, [.ref h5, .int 0])), (h5, .inl (k2, 64, .inl (fun _ => 0))), (h6, .inr (6, [.ref h7, .int 0])), (h7, .inl (k3, 64, .inl (fun _ => 0))), (h8, .inr (6, [.ref h9, .int 0])), (h9, .inl (k4, 64, .inl (fun _ => 0))), (h10, .inr (6, [.ref h11, .int 0])), (h11, .inl (k5, 64, .inl (fun _ => 0)))] := hD
  refine lv_iload hx hb dX3_type_12 (lv_at hl 4 rfl) ?_
  have hPc := hP.sub (ws' := []) [] rfl
  have hDc := hD.sub (ws' := []) [] (by decide) rfl
  have hKc := hK.sub (tys' := []) [] rfl
  have hFc := va_free (wc := []) hD hS hA [] rfl
  refine va_callv (va_runS (As := [.int l3]) (rest := []) ⟨hx, hb, hml, hown, hts⟩ (kx_X3_needLetterOrNone_1 l dC dI H.size l3 l3_l l3_u) (cwS 1 hts gX3_type_X3_needLetterOrNone rfl rfl rfl (by decide +kernel) ⟨Nat.le_of_ble_eq_true rfl, Nat.le_of_ble_eq_true rfl⟩) ⟨fun a U g mk q => by obtain ⟨q0, q1, qP, qK, qD⟩ := q; exact ⟨q0, q1, qP, va_K.moved (u := U) (U := U.calling g mk a) (Vm.Alike.refl U.vm) qK, qD⟩, fun U hU hW => ⟨rfl, by rw [hU], by rw [hU]; exact hPc, va_K.moved hW.alike hKc, hDc.weaken (fun _ _ _ _ => trivial)⟩⟩ rfl rfl hl.1 rfl (lv_room (Nat.le_of_ble_eq_true rfl)) dX3_type_14 ⟨Nat.le_of_ble_eq_true rfl, Nat.le_of_ble_eq_true rfl⟩) hS (fun q _ h => hFc q h) hFc (fun u t H1 locs ht hvm hw hB hz1 hk1 hS => ?_)
  obtain ⟨hP1, hK1, hD1⟩ := hB
  rw [ht] at hP1
  have hK1 := va_K.moved hvm.symm hK1
  obtain ⟨hP, hD⟩ := va_join (wr := [(h0, .inr (7, [.ref h1, .ref z0, .ref z1, .ref h2, .ref z2, .ref z3, .int 0, .int 0, .int 0])), (h1, .inl (k0, 4, .inr (.inr (.inr (.inr (va_up (va_up (va_up (va_up (fun _ => none) 0 (some h4)) 1 (some h6)) 2 (some h8)) 3 (some h10))))))), (h2, .inr (6, [.ref h3, .int 0])), (h3, .inl (k1, 64, .inl (fun _ => 0))), (h4, .inr (6, [.ref h5, .int 0])), (h5, .inl (k2, 64, .inl (fun _ => 0))), (h6, .inr (6, [.ref h7, .int 0])), (h7, .inl (k3, 64, .inl (fun _ => 0))), (h8, .inr (6, [.ref h9, .int 0])), (h9, .inl (k4, 64, .inl (fun _ => 0))), (h10, .inr (6, [.ref h11, .int 0])), (h11, .inl (k5, 64, .inl (fun _ => 0)))]) (w1 := []) hP hD [] [0, 1, 2, 3, 4, 5, 6, 7, 8, 9, 10, 11] rfl rfl (by decide) (by decide) hk1 hFc hP1 hD1
  generalize H1 = H at hP hS ⊢
  have hP : va_P (dC, dI) vwCl [(h0, .inr (7, [.ref h1, .ref z0, .ref z1, .ref h2, .ref z2, .ref z3, .int 0, .int 0, .int 0])), (h1, .inl (k0, 4, .inr (.inr (.inr (.inr (va_up (va_up (va_up (va_up (fun _ => none) 0 (some h4)) 1 (some h6)) 2 (some h8)) 3 (some h10))))))), (h2, .inr (6, [.ref h3, .int 0])), (h3, .inl (k1, 64, .inl (fun _ => 0))), (h4, .inr (6, [.ref h5, .int 0])), (h5, .inl (k2, 64, .inl (fun _ => 0))), (h6, .inr (6, [.ref h7, .int 0])), (h7, .inl (k3, 64, .inl (fun _ => 0))), (h8, .inr (6, [.ref h9, .int 0])), (h9, .inl (k4, 64, .inl (fun _ => 0))), (h10, .inr (6, [.ref h11, .int 0])), (h11, .inl (k5, 64, .inl (fun _ => 0)))] H := hP
  have hD : va_D A [(h0, .inr (7, [.ref h1, .ref z0, .ref z1, .ref h2, .ref z2, .ref z3, .int 0, .int 0, .int 0])), (h1, .inl (k0, 4, .inr (.inr (.inr (.inr (va_up (va_up (va_up (va_up (fun _ => none) 0 (some h4)) 1 (some h6)) 2 (some h8)) 3 (some h10))))))), (h2, .inr (6, [.ref h3, .int 0])), (h3, .inl (k1, 64, .inl (fun _ => 0))), (h4, .inr (6, [.ref h5, .int 0])), (h5, .inl (k2, 64, .inl (fun _ => 0))), (h6, .inr (6, [.ref h7, .int 0])), (h7, .inl (k3, 64, .inl (fun _ => 0))), (h8, .inr (6, [.ref h9, .int 0])), (h9, .inl (k4, 64, .inl (fun _ => 0))), (h10, .inr (6, [.ref h11, .int 0])), (h11, .inl (k5, 64, .inl (fun _ => 0)))] := hD
  refine lv_iload hx hb dX3_type_17 (lv_at hl 5 rfl) ?_
  have hPc := hP.sub (ws' := []) [] rfl
  have hDc := hD.sub (ws' := []) [] (by decide) rfl
  have hKc := hK.sub (tys' := []) [] rfl
  have hFc := va_free (wc := []) hD hS hA [] rfl
  refine va_callv (va_runS (As := [.int l4]) (rest := []) ⟨hx, hb, hml, hown, hts⟩ (kx_X3_needLetterOrNone_1 l dC dI H.size l4 l4_l l4_u) (cwS 1 hts gX3_type_X3_needLetterOrNone rfl rfl rfl (by decide +kernel) ⟨Nat.le_of_ble_eq_true rfl, Nat.le_of_ble_eq_true rfl⟩) ⟨fun a U g mk q => by obtain ⟨q0, q1, qP, qK, qD⟩ := q; exact ⟨q0, q1, qP, va_K.moved (u := U) (U := U.calling g mk a) (Vm.Alike.refl U.vm) qK, qD⟩, fun U hU hW => ⟨rfl, by rw [hU], by rw [hU]; exact hPc, va_K.moved hW.alike hKc, hDc.weaken (fun _ _ _ _ => trivial)⟩⟩ rfl rfl hl.1 rfl (lv_room (Nat.le_of_ble_eq_true rfl)) dX3_type_19 ⟨Nat.le_of_ble_eq_true rfl, Nat.le_of_ble_eq_true rfl⟩) hS (fun q _ h => hFc q h) hFc (fun u t H1 locs ht hvm hw hB hz1 hk1 hS => ?_)
  obtain ⟨hP1, hK1, hD1⟩ := hB
  rw [ht] at hP1
  have hK1 := va_K.moved hvm.symm hK1
  obtain ⟨hP, hD⟩ := va_join (wr := [(h0, .inr (7, [.ref h1, .ref z0, .ref z1, .ref h2, .ref z2, .ref z3, .int 0, .int 0, .int 0])), (h1, .inl (k0, 4, .inr (.inr (.inr (.inr (va_up (va_up (va_up (va_up (fun _ => none) 0 (some h4)) 1 (some h6)) 2 (some h8)) 3 (some h10))))))), (h2, .inr (6, [.ref h3, .int 0])), (h3, .inl (k1, 64, .inl (fun _ => 0))), (h4, .inr (6, [.ref h5, .int 0])), (h5, .inl (k2, 64, .inl (fun _ => 0))), (h6, .inr (6, [.ref h7, .int 0])), (h7, .inl (k3, 64, .inl (fun _ => 0))), (h8, .inr (6, [.ref h9, .int 0])), (h9, .inl (k4, 64, .inl (fun _ => 0))), (h10, .inr (6, [.ref h11, .int 0])), (h11, .inl (k5, 64, .inl (fun _ => 0)))]) (w1 := []) hP hD [] [0, 1, 2, 3, 4, 5, 6, 7, 8, 9, 10, 11] rfl rfl (by decide) (by decide) hk1 hFc hP1 hD1
  generalize H1 = H at hP hS ⊢
  have hP : va_P (dC, dI) vwCl [(h0, .inr (7, [.ref h1, .ref z0, .ref z1, .ref h2, .ref z2, .ref z3, .int 0, .int 0, .int 0])), (h1, .inl (k0, 4, .inr (.inr (.inr (.inr (va_up (va_up (va_up (va_up (fun _ => none) 0 (some h4)) 1 (some h6)) 2 (some h8)) 3 (some h10))))))), (h2, .inr (6, [.ref h3, .int 0])), (h3, .inl (k1, 64, .inl (fun _ => 0))), (h4, .inr (6, [.ref h5, .int 0])), (h5, .inl (k2, 64, .inl (fun _ => 0))), (h6, .inr (6, [.ref h7, .int 0])), (h7, .inl (k3, 64, .inl (fun _ => 0))), (h8, .inr (6, [.ref h9, .int 0])), (h9, .inl (k4, 64, .inl (fun _ => 0))), (h10, .inr (6, [.ref h11, .int 0])), (h11, .inl (k5, 64, .inl (fun _ => 0)))] H := hP
  have hD : va_D A [(h0, .inr (7, [.ref h1, .ref z0, .ref z1, .ref h2, .ref z2, .ref z3, .int 0, .int 0, .int 0])), (h1, .inl (k0, 4, .inr (.inr (.inr (.inr (va_up (va_up (va_up (va_up (fun _ => none) 0 (some h4)) 1 (some h6)) 2 (some h8)) 3 (some h10))))))), (h2, .inr (6, [.ref h3, .int 0])), (h3, .inl (k1, 64, .inl (fun _ => 0))), (h4, .inr (6, [.ref h5, .int 0])), (h5, .inl (k2, 64, .inl (fun _ => 0))), (h6, .inr (6, [.ref h7, .int 0])), (h7, .inl (k3, 64, .inl (fun _ => 0))), (h8, .inr (6, [.ref h9, .int 0])), (h9, .inl (k4, 64, .inl (fun _ => 0))), (h10, .inr (6, [.ref h11, .int 0])), (h11, .inl (k5, 64, .inl (fun _ => 0)))] := hD
  refine lv_iload hx hb dX3_type_22 (lv_at hl 6 rfl) ?_
  have hPc := hP.sub (ws' := []) [] rfl
  have hDc := hD.sub (ws' := []) [] (by decide) rfl
  have hKc := hK.sub (tys' := []) [] rfl
  have hFc := va_free (wc := []) hD hS hA [] rfl
  refine va_callv (va_runS (As := [.int l5]) (rest := []) ⟨hx, hb, hml, hown, hts⟩ (kx_X3_needLetterOrNone_1 l dC dI H.size l5 l5_l l5_u) (cwS 1 hts gX3_type_X3_needLetterOrNone rfl rfl rfl (by decide +kernel) ⟨Nat.le_of_ble_eq_true rfl, Nat.le_of_ble_eq_true rfl⟩) ⟨fun a U g mk q => by obtain ⟨q0, q1, qP, qK, qD⟩ := q; exact ⟨q0, q1, qP, va_K.moved (u := U) (U := U.calling g mk a) (Vm.Alike.refl U.vm) qK, qD⟩, fun U hU hW => ⟨rfl, by rw [hU], by rw [hU]; exact hPc, va_K.moved hW.alike hKc, hDc.weaken (fun _ _ _ _ => trivial)⟩⟩ rfl rfl hl.1 rfl (lv_room (Nat.le_of_ble_eq_true rfl)) dX3_type_24 ⟨Nat.le_of_ble_eq_true rfl, Nat.le_of_ble_eq_true rfl⟩) hS (fun q _ h => hFc q h) hFc (fun u t H1 locs ht hvm hw hB hz1 hk1 hS => ?_)
  obtain ⟨hP1, hK1, hD1⟩ := hB
  rw [ht] at hP1
  have hK1 := va_K.moved hvm.symm hK1
  obtain ⟨hP, hD⟩ := va_join (wr := [(h0, .inr (7, [.ref h1, .ref z0, .ref z1, .ref h2, .ref z2, .ref z3, .int 0, .int 0, .int 0])), (h1, .inl (k0, 4, .inr (.inr (.inr (.inr (va_up (va_up (va_up (va_up (fun _ => none) 0 (some h4)) 1 (some h6)) 2 (some h8)) 3 (some h10))))))), (h2, .inr (6, [.ref h3, .int 0])), (h3, .inl (k1, 64, .inl (fun _ => 0))), (h4, .inr (6, [.ref h5, .int 0])), (h5, .inl (k2, 64, .inl (fun _ => 0))), (h6, .inr (6, [.ref h7, .int 0])), (h7, .inl (k3, 64, .inl (fun _ => 0))), (h8, .inr (6, [.ref h9, .int 0])), (h9, .inl (k4, 64, .inl (fun _ => 0))), (h10, .inr (6, [.ref h11, .int 0])), (h11, .inl (k5, 64, .inl (fun _ => 0)))]) (w1 := []) hP hD [] [0, 1, 2, 3, 4, 5, 6, 7, 8, 9, 10, 11] rfl rfl (by decide) (by decide) hk1 hFc hP1 hD1
  generalize H1 = H at hP hS ⊢
  have hP : va_P (dC, dI) vwCl [(h0, .inr (7, [.ref h1, .ref z0, .ref z1, .ref h2, .ref z2, .ref z3, .int 0, .int 0, .int 0])), (h1, .inl (k0, 4, .inr (.inr (.inr (.inr (va_up (va_up (va_up (va_up (fun _ => none) 0 (some h4)) 1 (some h6)) 2 (some h8)) 3 (some h10))))))), (h2, .inr (6, [.ref h3, .int 0])), (h3, .inl (k1, 64, .inl (fun _ => 0))), (h4, .inr (6, [.ref h5, .int 0])), (h5, .inl (k2, 64, .inl (fun _ => 0))), (h6, .inr (6, [.ref h7, .int 0])), (h7, .inl (k3, 64, .inl (fun _ => 0))), (h8, .inr (6, [.ref h9, .int 0])), (h9, .inl (k4, 64, .inl (fun _ => 0))), (h10, .inr (6, [.ref h11, .int 0])), (h11, .inl (k5, 64, .inl (fun _ => 0)))] H := hP
  have hD : va_D A [(h0, .inr (7, [.ref h1, .ref z0, .ref z1, .ref h2, .ref z2, .ref z3, .int 0, .int 0, .int 0])), (h1, .inl (k0, 4, .inr (.inr (.inr (.inr (va_up (va_up (va_up (va_up (fun _ => none) 0 (some h4)) 1 (some h6)) 2 (some h8)) 3 (some h10))))))), (h2, .inr (6, [.ref h3, .int 0])), (h3, .inl (k1, 64, .inl (fun _ => 0))), (h4, .inr (6, [.ref h5, .int 0])), (h5, .inl (k2, 64, .inl (fun _ => 0))), (h6, .inr (6, [.ref h7, .int 0])), (h7, .inl (k3, 64, .inl (fun _ => 0))), (h8, .inr (6, [.ref h9, .int 0])), (h9, .inl (k4, 64, .inl (fun _ => 0))), (h10, .inr (6, [.ref h11, .int 0])), (h11, .inl (k5, 64, .inl (fun _ => 0)))] := hD
  refine lv_aload_n hx hb dX3_type_27 rfl (lv_at hl 0 rfl) ?_
  refine va_get (D := (dC, dI)) (ci := 7) (v := .ref h2) (C := RX3) (T := TX3) (N := 9) hx hb hts (by decide +kernel) hown hK hP 0 rfl rfl 3 (by decide) (hts (.fieldLink RX3 32 "Rewriterope" "work" "LRewriterope$Text;") (by decide +kernel)) (fun _ h9 => h9) rfl dX3_type_28 ?_
  have hPc := hP.sub (ws' := [(h2, .inr (6, [.ref h3, .int 0]))]) [2] rfl
  have hDc := hD.sub (ws' := [(h2, .inr (6, [.ref h3, .int 0]))]) [2] (by decide) rfl
  have hKc := hK.sub (tys' := []) [] rfl
  have hFc := va_free (wc := [(h2, .inr (6, [.ref h3, .int 0]))]) hD hS hA [2] rfl
  refine va_callv (va_runV (As := []) (rest := []) ⟨hx, hb, hml, hown, hts⟩ (kx_X2_makeEmpty_0 l dC dI h2 h3 H.size) (cwV 0 hts gX3_type_X2_makeEmpty rfl rfl rfl (by decide +kernel) ⟨Nat.le_of_ble_eq_true rfl, Nat.le_of_ble_eq_true rfl⟩) ⟨fun a U g mk q => by obtain ⟨q0, q1, qP, qK, qD⟩ := q; exact ⟨q0, q1, qP, va_K.moved (u := U) (U := U.calling g mk a) (Vm.Alike.refl U.vm) qK, qD⟩, va_recv hKc hPc (ci := 6) (q0 := 0) rfl rfl, fun U hU hW => ⟨rfl, by rw [hU], by rw [hU]; exact hPc, va_K.moved hW.alike hKc, hDc.weaken (fun _ _ _ _ => trivial)⟩⟩ rfl rfl hl.1 rfl (lv_room (Nat.le_of_ble_eq_true rfl)) dX3_type_31 ⟨Nat.le_of_ble_eq_true rfl, Nat.le_of_ble_eq_true rfl⟩) hS (fun q _ h => hFc q h) hFc (fun u t H1 locs ht hvm hw hB hz1 hk1 hS => ?_)
  obtain ⟨hP1, hK1, hD1⟩ := hB
  rw [ht] at hP1
  have hK1 := va_K.moved hvm.symm hK1
  obtain ⟨hP, hD⟩ := va_join (wr := [(h0, .inr (7, [.ref h1, .ref z0, .ref z1, .ref h2, .ref z2, .ref z3, .int 0, .int 0, .int 0])), (h1, .inl (k0, 4, .inr (.inr (.inr (.inr (va_up (va_up (va_up (va_up (fun _ => none) 0 (some h4)) 1 (some h6)) 2 (some h8)) 3 (some h10))))))), (h3, .inl (k1, 64, .inl (fun _ => 0))), (h4, .inr (6, [.ref h5, .int 0])), (h5, .inl (k2, 64, .inl (fun _ => 0))), (h6, .inr (6, [.ref h7, .int 0])), (h7, .inl (k3, 64, .inl (fun _ => 0))), (h8, .inr (6, [.ref h9, .int 0])), (h9, .inl (k4, 64, .inl (fun _ => 0))), (h10, .inr (6, [.ref h11, .int 0])), (h11, .inl (k5, 64, .inl (fun _ => 0)))]) (w1 := [(h2, .inr (6, [.ref h3, .int 0]))]) hP hD [2] [0, 1, 3, 4, 5, 6, 7, 8, 9, 10, 11] rfl rfl (by decide) (by decide) hk1 hFc hP1 hD1
  generalize H1 = H at hP hS ⊢
  have hP : va_P (dC, dI) vwCl [(h0, .inr (7, [.ref h1, .ref z0, .ref z1, .ref h2, .ref z2, .ref z3, .int 0, .int 0, .int 0])), (h1, .inl (k0, 4, .inr (.inr (.inr (.inr (va_up (va_up (va_up (va_up (fun _ => none) 0 (some h4)) 1 (some h6)) 2 (some h8)) 3 (some h10))))))), (h3, .inl (k1, 64, .inl (fun _ => 0))), (h4, .inr (6, [.ref h5, .int 0])), (h5, .inl (k2, 64, .inl (fun _ => 0))), (h6, .inr (6, [.ref h7, .int 0])), (h7, .inl (k3, 64, .inl (fun _ => 0))), (h8, .inr (6, [.ref h9, .int 0])), (h9, .inl (k4, 64, .inl (fun _ => 0))), (h10, .inr (6, [.ref h11, .int 0])), (h11, .inl (k5, 64, .inl (fun _ => 0))), (h2, .inr (6, [.ref h3, .int 0]))] H := hP
  have hD : va_D A [(h0, .inr (7, [.ref h1, .ref z0, .ref z1, .ref h2, .ref z2, .ref z3, .int 0, .int 0, .int 0])), (h1, .inl (k0, 4, .inr (.inr (.inr (.inr (va_up (va_up (va_up (va_up (fun _ => none) 0 (some h4)) 1 (some h6)) 2 (some h8)) 3 (some h10))))))), (h3, .inl (k1, 64, .inl (fun _ => 0))), (h4, .inr (6, [.ref h5, .int 0])), (h5, .inl (k2, 64, .inl (fun _ => 0))), (h6, .inr (6, [.ref h7, .int 0])), (h7, .inl (k3, 64, .inl (fun _ => 0))), (h8, .inr (6, [.ref h9, .int 0])), (h9, .inl (k4, 64, .inl (fun _ => 0))), (h10, .inr (6, [.ref h11, .int 0])), (h11, .inl (k5, 64, .inl (fun _ => 0))), (h2, .inr (6, [.ref h3, .int 0]))] := hD
  have hP := hP.sub (ws' := [(h0, .inr (7, [.ref h1, .ref z0, .ref z1, .ref h2, .ref z2, .ref z3, .int 0, .int 0, .int 0])), (h1, .inl (k0, 4, .inr (.inr (.inr (.inr (va_up (va_up (va_up (va_up (fun _ => none) 0 (some h4)) 1 (some h6)) 2 (some h8)) 3 (some h10))))))), (h2, .inr (6, [.ref h3, .int 0])), (h3, .inl (k1, 64, .inl (fun _ => 0))), (h4, .inr (6, [.ref h5, .int 0])), (h5, .inl (k2, 64, .inl (fun _ => 0))), (h6, .inr (6, [.ref h7, .int 0])), (h7, .inl (k3, 64, .inl (fun _ => 0))), (h8, .inr (6, [.ref h9, .int 0])), (h9, .inl (k4, 64, .inl (fun _ => 0))), (h10, .inr (6, [.ref h11, .int 0])), (h11, .inl (k5, 64, .inl (fun _ => 0)))]) [0, 1, 11, 2, 3, 4, 5, 6, 7, 8, 9, 10] rfl
  have hD := hD.sub (ws' := [(h0, .inr (7, [.ref h1, .ref z0, .ref z1, .ref h2, .ref z2, .ref z3, .int 0, .int 0, .int 0])), (h1, .inl (k0, 4, .inr (.inr (.inr (.inr (va_up (va_up (va_up (va_up (fun _ => none) 0 (some h4)) 1 (some h6)) 2 (some h8)) 3 (some h10))))))), (h2, .inr (6, [.ref h3, .int 0])), (h3, .inl (k1, 64, .inl (fun _ => 0))), (h4, .inr (6, [.ref h5, .int 0])), (h5, .inl (k2, 64, .inl (fun _ => 0))), (h6, .inr (6, [.ref h7, .int 0])), (h7, .inl (k3, 64, .inl (fun _ => 0))), (h8, .inr (6, [.ref h9, .int 0])), (h9, .inl (k4, 64, .inl (fun _ => 0))), (h10, .inr (6, [.ref h11, .int 0])), (h11, .inl (k5, 64, .inl (fun _ => 0)))]) [0, 1, 11, 2, 3, 4, 5, 6, 7, 8, 9, 10] (by decide) rfl
  have hK := hK.sub (tys' := [(k0, .object "Rewriterope$Text"), (k1, .byte), (k2, .byte), (k3, .byte), (k4, .byte), (k5, .byte)]) [0, 1, 2, 3, 4, 5] rfl
  have hl := lv_sub hl [0, 1, 2, 3, 4, 5, 6] (show lv_pick [(0, .ref h0), (1, .int rp), (2, .int l1), (3, .int l2), (4, .int l3), (5, .int l4), (6, .int l5)] [0, 1, 2, 3, 4, 5, 6] = [(0, .ref h0), (1, .int rp), (2, .int l1), (3, .int l2), (4, .int l3), (5, .int l4), (6, .int l5)] from rfl)
  exact kx_X3_type_h00 hR rp_l rp_u l1_l l1_u l2_l l2_u l3_l l3_u l4_l l4_u l5_l l5_u hx hb hr hml hown hts hlocks hA hS hK hP hD hl
set_option maxHeartbeats 4000000 in
set_option maxRecDepth 100000 in
theorem kx_X3_needRope_5 (l : Launch) (hst : l.stackTraces = false) (dC : Nat → ClassId) (dI : Nat → Nat → Nat) (ge5 gea gv5 gva gde gic gi0 : Nat) (sz : Nat) (i0 : Int32) (i0_l : ((-2147483648) : Int) ≤ i0.toInt) (i0_u : i0.toInt ≤ ((-1) : Int)) : vx_Met l yX3_needRope wsX3_needRope ({ frames := 6, cells := 1, slots := 6, locals := 120 }) (va_Pc [.int i0] (fun U => U.heap.size = sz ∧ va_P (dC, dI) vwCl [] U.heap ∧ va_K (dC, dI) vwCl [] U ∧ va_D (fun _ => True) [] ∧ gv ge5 gea gv5 gva gde gic gi0 (va_A [] sz) U U.heap)) (va_Qv (fun _ : Unit => False) (fun _ _ => True) (va_A [] sz)) (vx_X (fun _ : Unit => True) (fun (E : String) (_ : Unit) (t : State) => E = "java/lang/IndexOutOfBoundsException" ∧ va_P (dC, dI) vwCl [] t.heap ∧ va_K (dC, dI) vwCl [] t ∧ va_D (va_A [] sz) []) (va_A [] sz)) 1 6 (va_A [] sz) := by
  refine vx_ofW (cc := cX3_needRope) (maxL := 1) (ret := none) (by decide) rfl ?_
  intro p e s m args below meth c s₁ B hml ht9 hv
  obtain ⟨rfl, hsz, hP, hK, hD0, hG⟩ := hv
  have hx := B.exec
  have hb := B.bytes
  have hr := B.returns
  have hts := atoms_spec (ws := wsX3_needRope) B.pre
  have hown : s.vm.findClass RX3 = some m.cls := findClass_of_methodNamed B.named
  have hlocks := B.notSynchronized
  subst hsz
  have hD := hD0.self (sz := s.heap.size)
  generalize hAe : va_A [] s.heap.size = A at hD hG ⊢
  obtain ⟨⟨g_AO_Text, g_AO_String, g_AO_Object, g_nm_RX1_20, g_nm_RX0_17, g_nm_RX3_31, g_nm_RX2_44, g_nm_RL_121, g_nf_RL_13, g_nf_RL_47, g_ca_IO, g_ca_IA, g_ca_IS, g_ca_IntObj, g_ca_StrObj, g_de_RT, g_de_EX, g_de_TH, g_nc_IA_IO, g_nc_IS_IO, g_nc_IS_IA⟩, ⟨g_s3, g_s5, g_sa, g_x278, g_x280, g_x282, g_x284, g_x286, g_x180, g_x238, g_x250⟩, ⟨g_o5, g_c5, g_v5, g_t5, g_oa, g_ca, g_va, g_ta, g_zc, g_zd, g_td, g_zf, g_zU, g_zN, g_zh, g_zk, g_tk, g_oi, g_vi⟩⟩ := id hG
  have hA : ∀ q : Nat, s.heap.size ≤ q → A q := fun q h => by rw [← hAe]; exact Or.inr h
  have hS : va_S A s.heap s.heap [] := va_S.rf
  have hP : va_P (dC, dI) vwCl [] s.heap := hP
  have hl := lv_entry ([.int i0]) (n := 1) (Nat.le_of_ble_eq_true rfl)
  rw [lg_entry_eq]
  generalize (lg_sl ([.int i0]) ++ List.replicate (1 - (lg_sl ([.int i0])).length) Slot.unset).toArray = ls at hl ⊢
  have hl : lv_has ls 1 [(0, .int i0)] := hl
  refine lv_iload_n hx hb dX3_needRope_0 rfl (lv_at hl 0 rfl) ?_
  refine lv_if_lt (tgt := 9) hx hb dX3_needRope_1 (by decide) (fun _ => ?_) (fun c9 => absurd (Int32.lt_iff_toInt_lt.mpr (by rw [show (0 : Int32).toInt = 0 from by decide]; omega)) c9)
  obtain ⟨sa9, hsa9⟩ := g_x278
  have hin9 : ∀ w ∈ (vx_atS RX3 240 "java/lang/IndexOutOfBoundsException" ["java/lang/RuntimeException", "java/lang/Exception"]).filter goodWord, w ∈ wsX3_needRope := (by intro w hw; first | exact List.mem_cons_of_mem _ (List.mem_append_right _ hw) | exact List.mem_cons_of_mem _ (List.mem_append_left _ (List.mem_append_right _ hw)))
  exact vx_throwSW (cls := "java/lang/IndexOutOfBoundsException") (text := "no such rope") (names := ["java/lang/RuntimeException", "java/lang/Exception"]) (ic := 240) hx hb hst hown (by decide) (by decide) (hts (.classLink RX3 236 "java/lang/IndexOutOfBoundsException") (by decide +kernel)) (hts (.initialized "java/lang/IndexOutOfBoundsException") (by decide +kernel)) hsa9 (vx_hat (B := [.declares (Bundle.initS "java/lang/RuntimeException"), .declares (Bundle.initS "java/lang/Exception"), .declares (Bundle.initS Bundle.tN), .castable "java/lang/IndexOutOfBoundsException" "java/lang/IndexOutOfBoundsException"]) (fun w hw => hts w (hin9 w hw)) (fun w hw => by rw [xbad_IO] at hw; exact hw) (vx_c (va_Nw.use rfl g_de_RT) (vx_c (va_Nw.use rfl g_de_EX) (vx_c (va_Nw.use rfl g_de_TH) (vx_c (va_Nw.use rfl g_ca_IO) vx_n))))) (by decide +kernel) g_zU g_zN hS (by rw [hml]; exact hl.1) dX3_needRope_9 dX3_needRope_12 dX3_needRope_13 dX3_needRope_16 dX3_needRope_19 (fun x hx9 => (ht9 x hx9).elim) (Nat.le_of_ble_eq_true rfl) (Nat.le_of_ble_eq_true rfl) (Nat.le_of_ble_eq_true rfl) (Nat.le_of_ble_eq_true rfl) hlocks (fun t ha hz hk => ⟨(), trivial, ⟨rfl, hP.kept (fun k q hq => hk _ (vx_lt hP hq)), va_K.moved ha hK, hD⟩, Nat.le_trans hS.1 hz, fun q h1 h2 => (hk q (Nat.lt_of_lt_of_le h1 hS.1)).trans (hS.2.1 q h1 h2)⟩) hS.2.2 (Nat.le_refl _) (Nat.le_refl _)
set_option maxHeartbeats 4000000 in
set_option maxRecDepth 100000 in
theorem kx_X3_type_0 (l : Launch) (hst : l.stackTraces = false) (dC : Nat → ClassId) (dI : Nat → Nat → Nat) (ge5 gea gv5 gva gde gic gi0 : Nat) (h0 : Nat) (z0 : Nat) (z1 : Nat) (z2 : Nat) (z3 : Nat) (z4 : Nat) (z5 : Nat) (sz : Nat) (i0 : Int32) (i0_l : ((-2147483648) : Int) ≤ i0.toInt) (i0_u : i0.toInt ≤ ((-1) : Int)) (i1 : Int32) (i1_l : ((-2147483648) : Int) ≤ i1.toInt) (i1_u : i1.toInt ≤ (2147483647 : Int)) (i2 : Int32) (i2_l : ((-2147483648) : Int) ≤ i2.toInt) (i2_u : i2.toInt ≤ (2147483647 : Int)) (i3 : Int32) (i3_l : ((-2147483648) : Int) ≤ i3.toInt) (i3_u : i3.toInt ≤ (2147483647 : Int)) (i4 : Int32) (i4_l : ((-2147483648) : Int) ≤ i4.toInt) (i4_u : i4.toInt ≤ (2147483647 : Int)) (i5 : Int32) (i5_l : ((-2147483648) : Int) ≤ i5.toInt) (i5_u : i5.toInt ≤ (2147483647 : Int)) : vx_Met l yX3_type wsX3_type ({ frames := 7, cells := 1, slots := 6, locals := 140 }) (va_Pc [.ref h0, .int i0, .int i1, .int i2, .int i3, .int i4, .int i5] (fun U => U.heap.size = sz ∧ va_P (dC, dI) vwCl [(h0, .inr (7, [.ref z0, .ref z1, .ref z2, .ref z3, .ref z4, .ref z5, .int 0, .int 0, .int 0]))] U.heap ∧ va_K (dC, dI) vwCl [] U ∧ va_D (fun _ => True) [(h0, .inr (7, [.ref z0, .ref z1, .ref z2, .ref z3, .ref z4, .ref z5, .int 0, .int 0, .int 0]))] ∧ gv ge5 gea gv5 gva gde gic gi0 (va_A [(h0, .inr (7, [.ref z0, .ref z1, .ref z2, .ref z3, .ref z4, .ref z5, .int 0, .int 0, .int 0]))] sz) U U.heap)) (va_Qi (fun (_ : Int32) (_ : Unit) => False) (fun _ _ => True) (va_A [(h0, .inr (7, [.ref z0, .ref z1, .ref z2, .ref z3, .ref z4, .ref z5, .int 0, .int 0, .int 0]))] sz)) (vx_X (fun _ : Unit => True) (fun (E : String) (_ : Unit) (t : State) => E = "java/lang/IndexOutOfBoundsException" ∧ va_P (dC, dI) vwCl [(h0, .inr (7, [.ref z0, .ref z1, .ref z2, .ref z3, .ref z4, .ref z5, .int 0, .int 0, .int 0]))] t.heap ∧ va_K (dC, dI) vwCl [] t ∧ va_D (va_A [(h0, .inr (7, [.ref z0, .ref z1, .ref z2, .ref z3, .ref z4, .ref z5, .int 0, .int 0, .int 0]))] sz) [(h0, .inr (7, [.ref z0, .ref z1, .ref z2, .ref z3, .ref z4, .ref z5, .int 0, .int 0, .int 0]))]) (va_A [(h0, .inr (7, [.ref z0, .ref z1, .ref z2, .ref z3, .ref z4, .ref z5, .int 0, .int 0, .int 0]))] sz)) 1 6 (va_A [(h0, .inr (7, [.ref z0, .ref z1, .ref z2, .ref z3, .ref z4, .ref z5, .int 0, .int 0, .int 0]))] sz) := by
  refine vx_ofW (cc := cX3_type) (maxL := 8) (ret := (some .int)) (by decide) rfl ?_
  intro p e s m args below meth c s₁ B hml ht9 hv
  obtain ⟨rfl, hsz, hP, hK, hD0, hG⟩ := hv
  have hx := B.exec
  have hb := B.bytes
  have hr := B.returns
  have hts := atoms_spec (ws := wsX3_type) B.pre
  have hown : s.vm.findClass RX3 = some m.cls := findClass_of_methodNamed B.named
  have hlocks := B.notSynchronized
  subst hsz
  have hD := hD0.self (sz := s.heap.size)
  generalize hAe : va_A [(h0, .inr (7, [.ref z0, .ref z1, .ref z2, .ref z3, .ref z4, .ref z5, .int 0, .int 0, .int 0]))] s.heap.size = A at hD hG ⊢
  obtain ⟨⟨g_AO_Text, g_AO_String, g_AO_Object, g_nm_RX1_20, g_nm_RX0_17, g_nm_RX3_31, g_nm_RX2_44, g_nm_RL_121, g_nf_RL_13, g_nf_RL_47, g_ca_IO, g_ca_IA, g_ca_IS, g_ca_IntObj, g_ca_StrObj, g_de_RT, g_de_EX, g_de_TH, g_nc_IA_IO, g_nc_IS_IO, g_nc_IS_IA⟩, ⟨g_s3, g_s5, g_sa, g_x278, g_x280, g_x282, g_x284, g_x286, g_x180, g_x238, g_x250⟩, ⟨g_o5, g_c5, g_v5, g_t5, g_oa, g_ca, g_va, g_ta, g_zc, g_zd, g_td, g_zf, g_zU, g_zN, g_zh, g_zk, g_tk, g_oi, g_vi⟩⟩ := id hG
  have hA : ∀ q : Nat, s.heap.size ≤ q → A q := fun q h => by rw [← hAe]; exact Or.inr h
  have hS : va_S A s.heap s.heap [] := va_S.rf
  have hP : va_P (dC, dI) vwCl [(h0, .inr (7, [.ref z0, .ref z1, .ref z2, .ref z3, .ref z4, .ref z5, .int 0, .int 0, .int 0]))] s.heap := hP
  have hl := lv_entry ([.ref h0, .int i0, .int i1, .int i2, .int i3, .int i4, .int i5]) (n := 8) (Nat.le_of_ble_eq_true rfl)
  rw [lg_entry_eq]
  generalize (lg_sl ([.ref h0, .int i0, .int i1, .int i2, .int i3, .int i4, .int i5]) ++ List.replicate (8 - (lg_sl ([.ref h0, .int i0, .int i1, .int i2, .int i3, .int i4, .int i5])).length) Slot.unset).toArray = ls at hl ⊢
  have hl : lv_has ls 8 [(0, .ref h0), (1, .int i0), (2, .int i1), (3, .int i2), (4, .int i3), (5, .int i4), (6, .int i5)] := hl
  refine lv_iload_n hx hb dX3_type_0 rfl (lv_at hl 1 rfl) ?_
  have hPc := hP.sub (ws' := []) [] rfl
  have hDc := hD.sub (ws' := []) [] (by decide) rfl
  have hKc := hK.sub (tys' := []) [] rfl
  have hFc := va_free (wc := []) hD hS hA [] rfl
  refine vx_callv (vx_runS (As := [.int i0]) (rest := []) ⟨hx, hb, hml, hown, hts⟩ (kx_X3_needRope_5 l hst dC dI ge5 gea gv5 gva gde gic gi0 s.heap.size i0 i0_l i0_u) (cwS 1 hts gX3_type_X3_needRope rfl rfl rfl (by decide +kernel) ⟨Nat.le_of_ble_eq_true rfl, Nat.le_of_ble_eq_true rfl⟩) ⟨fun a U g mk q => by obtain ⟨q0, q1, qP, qK, qD, qG⟩ := q; exact ⟨q0, q1, qP, va_K.moved (u := U) (U := U.calling g mk a) (Vm.Alike.refl U.vm) qK, qD, gv.fb qG⟩, fun U hU hW => ⟨rfl, by rw [hU], by rw [hU]; exact hPc, va_K.moved hW.alike hKc, hDc.weaken (fun _ _ _ _ => trivial), gv.pass hW hU hS hFc hG⟩⟩ rfl rfl hl.1 rfl (lv_room (Nat.le_of_ble_eq_true rfl)) dX3_type_1 ⟨Nat.le_of_ble_eq_true rfl, Nat.le_of_ble_eq_true rfl⟩) hS (fun q _ h => hFc q h) hFc (fun q _ h => hFc q h) (fun E ce q9 u t H1 locs ht hvm hpx hB hz1 hk1 hS hce hcv hcl => ?_) (fun u t H1 locs ht hvm hw hB hz1 hk1 hS => hw.elim)
  obtain ⟨rfl, hP1, hK1, hD1⟩ := hB
  rw [ht] at hP1
  have hK1 := va_K.moved hvm.symm hK1
  obtain ⟨hP, hD⟩ := va_join (wr := [(h0, .inr (7, [.ref z0, .ref z1, .ref z2, .ref z3, .ref z4, .ref z5, .int 0, .int 0, .int 0]))]) (w1 := []) hP hD [] [0] rfl rfl (by decide) (by decide) hk1 hFc hP1 hD1
  generalize H1 = H at hP hS hce ⊢
  have hP : va_P (dC, dI) vwCl [(h0, .inr (7, [.ref z0, .ref z1, .ref z2, .ref z3, .ref z4, .ref z5, .int 0, .int 0, .int 0]))] H := hP
  have hD : va_D A [(h0, .inr (7, [.ref z0, .ref z1, .ref z2, .ref z3, .ref z4, .ref z5, .int 0, .int 0, .int 0]))] := hD
  exact vx_out (fun x hx9 => (ht9 x hx9).elim) hlocks hce hcv hcl (fun t ht hW => ⟨(), trivial, ⟨rfl, by rw [ht]; exact hP, va_K.moved hW hK, hD⟩, hS.F ht⟩) hS.2.2 (by omega) (by omega)
set_option maxHeartbeats 4000000 in
set_option maxRecDepth 100000 in
theorem kx_L_type_0 (l : Launch) (hst : l.stackTraces = false) (dC : Nat → ClassId) (dI : Nat → Nat → Nat) (ge5 gea gv5 gva gde gic gi0 : Nat) (h0 : Nat) (z0 : Nat) (z1 : Nat) (z2 : Nat) (z3 : Nat) (z4 : Nat) (z5 : Nat) (z6 : Nat) (sz : Nat) (i0 : Int32) (i0_l : ((-2147483648) : Int) ≤ i0.toInt) (i0_u : i0.toInt ≤ ((-1) : Int)) (i1 : Int32) (i1_l : ((-2147483648) : Int) ≤ i1.toInt) (i1_u : i1.toInt ≤ (2147483647 : Int)) (i2 : Int32) (i2_l : ((-2147483648) : Int) ≤ i2.toInt) (i2_u : i2.toInt ≤ (2147483647 : Int)) (i3 : Int32) (i3_l : ((-2147483648) : Int) ≤ i3.toInt) (i3_u : i3.toInt ≤ (2147483647 : Int)) (i4 : Int32) (i4_l : ((-2147483648) : Int) ≤ i4.toInt) (i4_u : i4.toInt ≤ (2147483647 : Int)) (i5 : Int32) (i5_l : ((-2147483648) : Int) ≤ i5.toInt) (i5_u : i5.toInt ≤ (2147483647 : Int)) : Met l yL_type wsL_type ({ frames := 8, cells := 1, slots := 6, locals := 167 }) (va_Pc [.ref h0, .int i0, .int i1, .int i2, .int i3, .int i4, .int i5, .ref z0] (fun U => U.heap.size = sz ∧ va_P (dC, dI) vwCl [(h0, .inr (7, [.ref z1, .ref z2, .ref z3, .ref z4, .ref z5, .ref z6, .int 0, .int 0, .int 0]))] U.heap ∧ va_K (dC, dI) vwCl [] U ∧ va_D (fun _ => True) [(h0, .inr (7, [.ref z1, .ref z2, .ref z3, .ref z4, .ref z5, .ref z6, .int 0, .int 0, .int 0]))] ∧ gv ge5 gea gv5 gva gde gic gi0 (va_A [(h0, .inr (7, [.ref z1, .ref z2, .ref z3, .ref z4, .ref z5, .ref z6, .int 0, .int 0, .int 0]))] sz) U U.heap)) (va_Qi (fun (r : Int32) (_ : Unit) => r = 1) (fun (_ : Unit) (t : State) => va_P (dC, dI) vwCl [(h0, .inr (7, [.ref z1, .ref z2, .ref z3, .ref z4, .ref z5, .ref z6, .int 0, .int 0, .int 0]))] t.heap ∧ va_K (dC, dI) vwCl [] t ∧ va_D (va_A [(h0, .inr (7, [.ref z1, .ref z2, .ref z3, .ref z4, .ref z5, .ref z6, .int 0, .int 0, .int 0]))] sz) [(h0, .inr (7, [.ref z1, .ref z2, .ref z3, .ref z4, .ref z5, .ref z6, .int 0, .int 0, .int 0]))]) (va_A [(h0, .inr (7, [.ref z1, .ref z2, .ref z3, .ref z4, .ref z5, .ref z6, .int 0, .int 0, .int 0]))] sz)) 1 6 (va_A [(h0, .inr (7, [.ref z1, .ref z2, .ref z3, .ref z4, .ref z5, .ref z6, .int 0, .int 0, .int 0]))] sz) := by
  refine kz_ofWH (cc := cL_type) (maxL := 9) (ret := (some .int)) (hh := [(0, 19, 22, 19), (0, 19, 26, 21), (0, 19, 30, 23)]) (by decide) rfl ?_
  intro p e s m args below meth c s₁ B hml hv
  obtain ⟨rfl, hsz, hP, hK, hD0, hG⟩ := hv
  have hx := B.exec
  have hb := B.bytes
  have hr := B.returns
  have hts := atoms_spec (ws := wsL_type) B.pre
  have hown : s.vm.findClass RL = some m.cls := findClass_of_methodNamed B.named
  have htab := vx_table (x := yL_type) B (hts (.codeWith yL_type cL_type 9 (some .int) [(0, 19, 22, 19), (0, 19, 26, 21), (0, 19, 30, 23)]) (by decide +kernel))
  have hlocks := B.notSynchronized
  subst hsz
  have hD := hD0.self (sz := s.heap.size)
  generalize hAe : va_A [(h0, .inr (7, [.ref z1, .ref z2, .ref z3, .ref z4, .ref z5, .ref z6, .int 0, .int 0, .int 0]))] s.heap.size = A at hD hG ⊢
  obtain ⟨⟨g_AO_Text, g_AO_String, g_AO_Object, g_nm_RX1_20, g_nm_RX0_17, g_nm_RX3_31, g_nm_RX2_44, g_nm_RL_121, g_nf_RL_13, g_nf_RL_47, g_ca_IO, g_ca_IA, g_ca_IS, g_ca_IntObj, g_ca_StrObj, g_de_RT, g_de_EX, g_de_TH, g_nc_IA_IO, g_nc_IS_IO, g_nc_IS_IA⟩, ⟨g_s3, g_s5, g_sa, g_x278, g_x280, g_x282, g_x284, g_x286, g_x180, g_x238, g_x250⟩, ⟨g_o5, g_c5, g_v5, g_t5, g_oa, g_ca, g_va, g_ta, g_zc, g_zd, g_td, g_zf, g_zU, g_zN, g_zh, g_zk, g_tk, g_oi, g_vi⟩⟩ := id hG
  have hA : ∀ q : Nat, s.heap.size ≤ q → A q := fun q h => by rw [← hAe]; exact Or.inr h
  have hS : va_S A s.heap s.heap [] := va_S.rf
  have hP : va_P (dC, dI) vwCl [(h0, .inr (7, [.ref z1, .ref z2, .ref z3, .ref z4, .ref z5, .ref z6, .int 0, .int 0, .int 0]))] s.heap := hP
  have hl := lv_entry ([.ref h0, .int i0, .int i1, .int i2, .int i3, .int i4, .int i5, .ref z0]) (n := 9) (Nat.le_of_ble_eq_true rfl)
  rw [lg_entry_eq]
  generalize (lg_sl ([.ref h0, .int i0, .int i1, .int i2, .int i3, .int i4, .int i5, .ref z0]) ++ List.replicate (9 - (lg_sl ([.ref h0, .int i0, .int i1, .int i2, .int i3, .int i4, .int i5, .ref z0])).length) Slot.unset).toArray = ls at hl ⊢
  have hl : lv_has ls 9 [(0, .ref h0), (1, .int i0), (2, .int i1), (3, .int i2), (4, .int i3), (5, .int i4), (6, .int i5), (7, .ref z0)] := hl
  refine lv_aload hx hb dL_type_0 (lv_at hl 7 rfl) ?_
  refine lv_aload_n hx hb dL_type_2 rfl (lv_at hl 0 rfl) ?_
  refine lv_iload_n hx hb dL_type_3 rfl (lv_at hl 1 rfl) ?_
  refine lv_iload_n hx hb dL_type_4 rfl (lv_at hl 2 rfl) ?_
  refine lv_iload_n hx hb dL_type_5 rfl (lv_at hl 3 rfl) ?_
  refine lv_iload hx hb dL_type_6 (lv_at hl 4 rfl) ?_
  refine lv_iload hx hb dL_type_8 (lv_at hl 5 rfl) ?_
  refine lv_iload hx hb dL_type_10 (lv_at hl 6 rfl) ?_
  have hPc := hP.sub (ws' := [(h0, .inr (7, [.ref z1, .ref z2, .ref z3, .ref z4, .ref z5, .ref z6, .int 0, .int 0, .int 0]))]) [0] rfl
  have hDc := hD.sub (ws' := [(h0, .inr (7, [.ref z1, .ref z2, .ref z3, .ref z4, .ref z5, .ref z6, .int 0, .int 0, .int 0]))]) [0] (by decide) rfl
  have hKc := hK.sub (tys' := []) [] rfl
  have hFc := va_free (wc := [(h0, .inr (7, [.ref z1, .ref z2, .ref z3, .ref z4, .ref z5, .ref z6, .int 0, .int 0, .int 0]))]) hD hS hA [0] rfl
  refine vx_calli (vx_runV (As := [.int i0, .int i1, .int i2, .int i3, .int i4, .int i5]) (rest := [.ref z0]) ⟨hx, hb, hml, hown, hts⟩ (kx_X3_type_0 l hst dC dI ge5 gea gv5 gva gde gic gi0 h0 z1 z2 z3 z4 z5 z6 s.heap.size i0 i0_l i0_u i1 i1_l i1_u i2 i2_l i2_u i3 i3_l i3_u i4 i4_l i4_u i5 i5_l i5_u) (cwV 6 hts gL_type_X3_type rfl rfl rfl (by decide +kernel) ⟨Nat.le_of_ble_eq_true rfl, Nat.le_of_ble_eq_true rfl⟩) ⟨fun a U g mk q => by obtain ⟨q0, q1, qP, qK, qD, qG⟩ := q; exact ⟨q0, q1, qP, va_K.moved (u := U) (U := U.calling g mk a) (Vm.Alike.refl U.vm) qK, qD, gv.fb qG⟩, va_recv hKc hPc (ci := 7) (q0 := 0) rfl rfl, fun U hU hW => ⟨rfl, by rw [hU], by rw [hU]; exact hPc, va_K.moved hW.alike hKc, hDc.weaken (fun _ _ _ _ => trivial), gv.pass hW hU hS hFc hG⟩⟩ rfl rfl hl.1 rfl (lv_room (Nat.le_of_ble_eq_true rfl)) dL_type_12 ⟨Nat.le_of_ble_eq_true rfl, Nat.le_of_ble_eq_true rfl⟩) hS (fun q _ h => hFc q h) hFc (fun q _ h => hFc q h) (fun E ce q9 u t H1 locs ht hvm hpx hB hz1 hk1 hS hce hcv hcl => ?_) (fun r9 u t H1 locs ht hvm hw hB hz1 hk1 hS => hw.elim)
  obtain ⟨rfl, hP1, hK1, hD1⟩ := hB
  rw [ht] at hP1
  have hK1 := va_K.moved hvm.symm hK1
  obtain ⟨hP, hD⟩ := va_join (wr := []) (w1 := [(h0, .inr (7, [.ref z1, .ref z2, .ref z3, .ref z4, .ref z5, .ref z6, .int 0, .int 0, .int 0]))]) hP hD [0] [] rfl rfl (by decide) (by decide) hk1 hFc hP1 hD1
  generalize H1 = H at hP hS hce ⊢
  have hP : va_P (dC, dI) vwCl [(h0, .inr (7, [.ref z1, .ref z2, .ref z3, .ref z4, .ref z5, .ref z6, .int 0, .int 0, .int 0]))] H := hP
  have hD : va_D A [(h0, .inr (7, [.ref z1, .ref z2, .ref z3, .ref z4, .ref z5, .ref z6, .int 0, .int 0, .int 0]))] := hD
  refine vx_catch (own := RL) (name := "java/lang/IndexOutOfBoundsException") hown (tableOf []) ⟨0, 19, 22, 19⟩ (tableOf [(0, 19, 26, 21), (0, 19, 30, 23)]) (by rw [htab]; rfl) (fun z hz => nomatch hz) (by decide +kernel) (by decide) (hts (.classLink RL 19 "java/lang/IndexOutOfBoundsException") (by decide +kernel)) (va_Nw.use rfl g_ca_IO) hce hcv hcl ?_
  refine W.eq (g2 := F0 m 22 ls [.ref q9]) rfl ?_
  refine lv_astore (lv' := [(8, .ref q9), (0, .ref h0), (1, .int i0), (2, .int i1), (3, .int i2), (4, .int i3), (5, .int i4), (6, .int i5), (7, .ref z0)]) hx hb dL_type_22 hl (by decide) rfl (fun ls hl => ?_)
  refine lv_iconst (v := 1) hx hb dL_type_24 (by decide) ?_
  exact W.iret (v := 1) hx hb hr (fun t ht hW => ⟨⟨1, (), rfl, rfl, by rw [ht]; exact hP, va_K.moved hW.alike hK, hD⟩, hS.F ht⟩) hS.2.2 dL_type_25
set_option maxHeartbeats 4000000 in
set_option maxRecDepth 100000 in
theorem kx_X5_thrown_0 (l : Launch) (dC : Nat → ClassId) (dI : Nat → Nat → Nat) (h0 : Nat) (z0 : Nat) (z1 : Nat) (z2 : Nat) (sz : Nat) : Met l yX5_thrown wsX5_thrown ({ frames := 0, cells := 0, slots := 0, locals := 0 }) (va_Pc [.ref h0] (fun U => U.heap.size = sz ∧ va_P (dC, dI) vwCl [(h0, .inr (9, [.int 1, .ref z0, .ref z1, .ref z2, .int 0, .int 0, .int 0]))] U.heap ∧ va_K (dC, dI) vwCl [] U ∧ va_D (fun _ => True) [(h0, .inr (9, [.int 1, .ref z0, .ref z1, .ref z2, .int 0, .int 0, .int 0]))])) (va_Qi (fun (r : Int32) (_ : Unit) => r = 1) (fun (_ : Unit) (t : State) => va_P (dC, dI) vwCl [(h0, .inr (9, [.int 1, .ref z0, .ref z1, .ref z2, .int 0, .int 0, .int 0]))] t.heap ∧ va_K (dC, dI) vwCl [] t ∧ va_D (va_A [(h0, .inr (9, [.int 1, .ref z0, .ref z1, .ref z2, .int 0, .int 0, .int 0]))] sz) [(h0, .inr (9, [.int 1, .ref z0, .ref z1, .ref z2, .int 0, .int 0, .int 0]))]) (va_A [(h0, .inr (9, [.int 1, .ref z0, .ref z1, .ref z2, .int 0, .int 0, .int 0]))] sz)) 0 0 (va_A [(h0, .inr (9, [.int 1, .ref z0, .ref z1, .ref z2, .int 0, .int 0, .int 0]))] sz) := by
  refine Met.ofW (cc := cX5_thrown) (maxL := 1) (ret := (some .int)) (by decide) rfl ?_
  intro p e s m args below meth c s₁ B hml hv
  obtain ⟨rfl, hsz, hP, hK, hD0⟩ := hv
  have hx := B.exec
  have hb := B.bytes
  have hr := B.returns
  have hts := atoms_spec (ws := wsX5_thrown) B.pre
  have hown : s.vm.findClass RX5 = some m.cls := findClass_of_methodNamed B.named
  have hlocks := B.notSynchronized
  subst hsz
  have hD := hD0.self (sz := s.heap.size)
  generalize hAe : va_A [(h0, .inr (9, [.int 1, .ref z0, .ref z1, .ref z2, .int 0, .int 0, .int 0]))] s.heap.size = A at hD ⊢
  have hA : ∀ q : Nat, s.heap.size ≤ q → A q := fun q h => by rw [← hAe]; exact Or.inr h
  have hS : va_S A s.heap s.heap [] := va_S.rf
  have hP : va_P (dC, dI) vwCl [(h0, .inr (9, [.int 1, .ref z0, .ref z1, .ref z2, .int 0, .int 0, .int 0]))] s.heap := hP
  have hl := lv_entry ([.ref h0]) (n := 1) (Nat.le_of_ble_eq_true rfl)
  rw [lg_entry_eq]
  generalize (lg_sl ([.ref h0]) ++ List.replicate (1 - (lg_sl ([.ref h0])).length) Slot.unset).toArray = ls at hl ⊢
  have hl : lv_has ls 1 [(0, .ref h0)] := hl
  refine lv_aload_n hx hb dX5_thrown_0 rfl (lv_at hl 0 rfl) ?_
  refine va_get (D := (dC, dI)) (ci := 9) (v := .int 1) (C := RX5) (T := TX5) (N := 7) hx hb hts (by decide +kernel) hown hK hP 0 rfl rfl 0 (by decide) (hts (.fieldLink RX5 27 "RewriteropeModel" "thrown" "I") (by decide +kernel)) (fun _ h9 => h9) rfl dX5_thrown_1 ?_
  exact W.iret (v := 1) hx hb hr (fun t ht hW => ⟨⟨1, (), rfl, rfl, by rw [ht]; exact hP, va_K.moved hW.alike hK, hD⟩, hS.F ht⟩) hS.2.2 dX5_thrown_4
set_option maxHeartbeats 4000000 in
set_option maxRecDepth 100000 in
theorem kx_X3_needRope_6 (l : Launch) (hst : l.stackTraces = false) (dC : Nat → ClassId) (dI : Nat → Nat → Nat) (ge5 gea gv5 gva gde gic gi0 : Nat) (sz : Nat) (i0 : Int32) (i0_l : (4 : Int) ≤ i0.toInt) (i0_u : i0.toInt ≤ (2147483647 : Int)) : vx_Met l yX3_needRope wsX3_needRope ({ frames := 6, cells := 1, slots := 6, locals := 120 }) (va_Pc [.int i0] (fun U => U.heap.size = sz ∧ va_P (dC, dI) vwCl [] U.heap ∧ va_K (dC, dI) vwCl [] U ∧ va_D (fun _ => True) [] ∧ gv ge5 gea gv5 gva gde gic gi0 (va_A [] sz) U U.heap)) (va_Qv (fun _ : Unit => False) (fun _ _ => True) (va_A [] sz)) (vx_X (fun _ : Unit => True) (fun (E : String) (_ : Unit) (t : State) => E = "java/lang/IndexOutOfBoundsException" ∧ va_P (dC, dI) vwCl [] t.heap ∧ va_K (dC, dI) vwCl [] t ∧ va_D (va_A [] sz) []) (va_A [] sz)) 1 6 (va_A [] sz) := by
  refine vx_ofW (cc := cX3_needRope) (maxL := 1) (ret := none) (by decide) rfl ?_
  intro p e s m args below meth c s₁ B hml ht9 hv
  obtain ⟨rfl, hsz, hP, hK, hD0, hG⟩ := hv
  have hx := B.exec
  have hb := B.bytes
  have hr := B.returns
  have hts := atoms_spec (ws := wsX3_needRope) B.pre
  have hown : s.vm.findClass RX3 = some m.cls := findClass_of_methodNamed B.named
  have hlocks := B.notSynchronized
  subst hsz
  have hD := hD0.self (sz := s.heap.size)
  generalize hAe : va_A [] s.heap.size = A at hD hG ⊢
  obtain ⟨⟨g_AO_Text, g_AO_String, g_AO_Object, g_nm_RX1_20, g_nm_RX0_17, g_nm_RX3_31, g_nm_RX2_44, g_nm_RL_121, g_nf_RL_13, g_nf_RL_47, g_ca_IO, g_ca_IA, g_ca_IS, g_ca_IntObj, g_ca_StrObj, g_de_RT, g_de_EX, g_de_TH, g_nc_IA_IO, g_nc_IS_IO, g_nc_IS_IA⟩, ⟨g_s3, g_s5, g_sa, g_x278, g_x280, g_x282, g_x284, g_x286, g_x180, g_x238, g_x250⟩, ⟨g_o5, g_c5, g_v5, g_t5, g_oa, g_ca, g_va, g_ta, g_zc, g_zd, g_td, g_zf, g_zU, g_zN, g_zh, g_zk, g_tk, g_oi, g_vi⟩⟩ := id hG
  have hA : ∀ q : Nat, s.heap.size ≤ q → A q := fun q h => by rw [← hAe]; exact Or.inr h
  have hS : va_S A s.heap s.heap [] := va_S.rf
  have hP : va_P (dC, dI) vwCl [] s.heap := hP
  have hl := lv_entry ([.int i0]) (n := 1) (Nat.le_of_ble_eq_true rfl)
  rw [lg_entry_eq]
  generalize (lg_sl ([.int i0]) ++ List.replicate (1 - (lg_sl ([.int i0])).length) Slot.unset).toArray = ls at hl ⊢
  have hl : lv_has ls 1 [(0, .int i0)] := hl
  refine lv_iload_n hx hb dX3_needRope_0 rfl (lv_at hl 0 rfl) ?_
  refine lv_if_lt (tgt := 9) hx hb dX3_needRope_1 (by decide) (fun c9 => absurd c9 (fun c8 => absurd (Int32.lt_iff_toInt_lt.mp c8) (by rw [show (0 : Int32).toInt = 0 from by decide]; omega))) (fun _ => ?_)
  refine lv_iload_n hx hb dX3_needRope_4 rfl (lv_at hl 0 rfl) ?_
  refine lv_iconst (v := 4) hx hb dX3_needRope_5 (by decide) ?_
  refine lv_icmp_lt (tgt := 20) hx hb dX3_needRope_6 (by decide) (fun c9 => absurd c9 (fun c8 => absurd (Int32.lt_iff_toInt_lt.mp c8) (by rw [show (4 : Int32).toInt = 4 from by decide]; omega))) (fun _ => ?_)
  obtain ⟨sa9, hsa9⟩ := g_x278
  have hin9 : ∀ w ∈ (vx_atS RX3 240 "java/lang/IndexOutOfBoundsException" ["java/lang/RuntimeException", "java/lang/Exception"]).filter goodWord, w ∈ wsX3_needRope := (by intro w hw; first | exact List.mem_cons_of_mem _ (List.mem_append_right _ hw) | exact List.mem_cons_of_mem _ (List.mem_append_left _ (List.mem_append_right _ hw)))
  exact vx_throwSW (cls := "java/lang/IndexOutOfBoundsException") (text := "no such rope") (names := ["java/lang/RuntimeException", "java/lang/Exception"]) (ic := 240) hx hb hst hown (by decide) (by decide) (hts (.classLink RX3 236 "java/lang/IndexOutOfBoundsException") (by decide +kernel)) (hts (.initialized "java/lang/IndexOutOfBoundsException") (by decide +kernel)) hsa9 (vx_hat (B := [.declares (Bundle.initS "java/lang/RuntimeException"), .declares (Bundle.initS "java/lang/Exception"), .declares (Bundle.initS Bundle.tN), .castable "java/lang/IndexOutOfBoundsException" "java/lang/IndexOutOfBoundsException"]) (fun w hw => hts w (hin9 w hw)) (fun w hw => by rw [xbad_IO] at hw; exact hw) (vx_c (va_Nw.use rfl g_de_RT) (vx_c (va_Nw.use rfl g_de_EX) (vx_c (va_Nw.use rfl g_de_TH) (vx_c (va_Nw.use rfl g_ca_IO) vx_n))))) (by decide +kernel) g_zU g_zN hS (by rw [hml]; exact hl.1) dX3_needRope_9 dX3_needRope_12 dX3_needRope_13 dX3_needRope_16 dX3_needRope_19 (fun x hx9 => (ht9 x hx9).elim) (Nat.le_of_ble_eq_true rfl) (Nat.le_of_ble_eq_true rfl) (Nat.le_of_ble_eq_true rfl) (Nat.le_of_ble_eq_true rfl) hlocks (fun t ha hz hk => ⟨(), trivial, ⟨rfl, hP.kept (fun k q hq => hk _ (vx_lt hP hq)), va_K.moved ha hK, hD⟩, Nat.le_trans hS.1 hz, fun q h1 h2 => (hk q (Nat.lt_of_lt_of_le h1 hS.1)).trans (hS.2.1 q h1 h2)⟩) hS.2.2 (Nat.le_refl _) (Nat.le_refl _)
set_option maxHeartbeats 4000000 in
set_option maxRecDepth 100000 in
theorem kx_X3_type_1 (l : Launch) (hst : l.stackTraces = false) (dC : Nat → ClassId) (dI : Nat → Nat → Nat) (ge5 gea gv5 gva gde gic gi0 : Nat) (h0 : Nat) (z0 : Nat) (z1 : Nat) (z2 : Nat) (z3 : Nat) (z4 : Nat) (z5 : Nat) (sz : Nat) (i0 : Int32) (i0_l : (4 : Int) ≤ i0.toInt) (i0_u : i0.toInt ≤ (2147483647 : Int)) (i1 : Int32) (i1_l : ((-2147483648) : Int) ≤ i1.toInt) (i1_u : i1.toInt ≤ (2147483647 : Int)) (i2 : Int32) (i2_l : ((-2147483648) : Int) ≤ i2.toInt) (i2_u : i2.toInt ≤ (2147483647 : Int)) (i3 : Int32) (i3_l : ((-2147483648) : Int) ≤ i3.toInt) (i3_u : i3.toInt ≤ (2147483647 : Int)) (i4 : Int32) (i4_l : ((-2147483648) : Int) ≤ i4.toInt) (i4_u : i4.toInt ≤ (2147483647 : Int)) (i5 : Int32) (i5_l : ((-2147483648) : Int) ≤ i5.toInt) (i5_u : i5.toInt ≤ (2147483647 : Int)) : vx_Met l yX3_type wsX3_type ({ frames := 7, cells := 1, slots := 6, locals := 140 }) (va_Pc [.ref h0, .int i0, .int i1, .int i2, .int i3, .int i4, .int i5] (fun U => U.heap.size = sz ∧ va_P (dC, dI) vwCl [(h0, .inr (7, [.ref z0, .ref z1, .ref z2, .ref z3, .ref z4, .ref z5, .int 0, .int 0, .int 0]))] U.heap ∧ va_K (dC, dI) vwCl [] U ∧ va_D (fun _ => True) [(h0, .inr (7, [.ref z0, .ref z1, .ref z2, .ref z3, .ref z4, .ref z5, .int 0, .int 0, .int 0]))] ∧ gv ge5 gea gv5 gva gde gic gi0 (va_A [(h0, .inr (7, [.ref z0, .ref z1, .ref z2, .ref z3, .ref z4, .ref z5, .int 0, .int 0, .int 0]))] sz) U U.heap)) (va_Qi (fun (_ : Int32) (_ : Unit) => False) (fun _ _ => True) (va_A [(h0, .inr (7, [.ref z0, .ref z1, .ref z2, .ref z3, .ref z4, .ref z5, .int 0, .int 0, .int 0]))] sz)) (vx_X (fun _ : Unit => True) (fun (E : String) (_ : Unit) (t : State) => E = "java/lang/IndexOutOfBoundsException" ∧ va_P (dC, dI) vwCl [(h0, .inr (7, [.ref z0, .ref z1, .ref z2, .ref z3, .ref z4, .ref z5, .int 0, .int 0, .int 0]))] t.heap ∧ va_K (dC, dI) vwCl [] t ∧ va_D (va_A [(h0, .inr (7, [.ref z0, .ref z1, .ref z2, .ref z3, .ref z4, .ref z5, .int 0, .int 0, .int 0]))] sz) [(h0, .inr (7, [.ref z0, .ref z1, .ref z2, .ref z3, .ref z4, .ref z5, .int 0, .int 0, .int 0]))]) (va_A [(h0, .inr (7, [.ref z0, .ref z1, .ref z2, .ref z3, .ref z4, .ref z5, .int 0, .int 0, .int 0]))] sz)) 1 6 (va_A [(h0, .inr (7, [.ref z0, .ref z1, .ref z2, .ref z3, .ref z4, .ref z5, .int 0, .int 0, .int 0]))] sz) := by
  refine vx_ofW (cc := cX3_type) (maxL := 8) (ret := (some .int)) (by decide) rfl ?_
  intro p e s m args below meth c s₁ B hml ht9 hv
  obtain ⟨rfl, hsz, hP, hK, hD0, hG⟩ := hv
  have hx := B.exec
  have hb := B.bytes
  have hr := B.returns
  have hts := atoms_spec (ws := wsX3_type) B.pre
  have hown : s.vm.findClass RX3 = some m.cls := findClass_of_methodNamed B.named
  have hlocks := B.notSynchronized
  subst hsz
  have hD := hD0.self (sz := s.heap.size)
  generalize hAe : va_A [(h0, .inr (7, [.ref z0, .ref z1, .ref z2, .ref z3, .ref z4, .ref z5, .int 0, .int 0, .int 0]))] s.heap.size = A at hD hG ⊢
  obtain ⟨⟨g_AO_Text, g_AO_String, g_AO_Object, g_nm_RX1_20, g_nm_RX0_17, g_nm_RX3_31, g_nm_RX2_44, g_nm_RL_121, g_nf_RL_13, g_nf_RL_47, g_ca_IO, g_ca_IA, g_ca_IS, g_ca_IntObj, g_ca_StrObj, g_de_RT, g_de_EX, g_de_TH, g_nc_IA_IO, g_nc_IS_IO, g_nc_IS_IA⟩, ⟨g_s3, g_s5, g_sa, g_x278, g_x280, g_x282, g_x284, g_x286, g_x180, g_x238, g_x250⟩, ⟨g_o5, g_c5, g_v5, g_t5, g_oa, g_ca, g_va, g_ta, g_zc, g_zd, g_td, g_zf, g_zU, g_zN, g_zh, g_zk, g_tk, g_oi, g_vi⟩⟩ := id hG
  have hA : ∀ q : Nat, s.heap.size ≤ q → A q := fun q h => by rw [← hAe]; exact Or.inr h
  have hS : va_S A s.heap s.heap [] := va_S.rf
  have hP : va_P (dC, dI) vwCl [(h0, .inr (7, [.ref z0, .ref z1, .ref z2, .ref z3, .ref z4, .ref z5, .int 0, .int 0, .int 0]))] s.heap := hP
  have hl := lv_entry ([.ref h0, .int i0, .int i1, .int i2, .int i3, .int i4, .int i5]) (n := 8) (Nat.le_of_ble_eq_true rfl)
  rw [lg_entry_eq]
  generalize (lg_sl ([.ref h0, .int i0, .int i1, .int i2, .int i3, .int i4, .int i5]) ++ List.replicate (8 - (lg_sl ([.ref h0, .int i0, .int i1, .int i2, .int i3, .int i4, .int i5])).length) Slot.unset).toArray = ls at hl ⊢
  have hl : lv_has ls 8 [(0, .ref h0), (1, .int i0), (2, .int i1), (3, .int i2), (4, .int i3), (5, .int i4), (6, .int i5)] := hl
  refine lv_iload_n hx hb dX3_type_0 rfl (lv_at hl 1 rfl) ?_
  have hPc := hP.sub (ws' := []) [] rfl
  have hDc := hD.sub (ws' := []) [] (by decide) rfl
  have hKc := hK.sub (tys' := []) [] rfl
  have hFc := va_free (wc := []) hD hS hA [] rfl
  refine vx_callv (vx_runS (As := [.int i0]) (rest := []) ⟨hx, hb, hml, hown, hts⟩ (kx_X3_needRope_6 l hst dC dI ge5 gea gv5 gva gde gic gi0 s.heap.size i0 i0_l i0_u) (cwS 1 hts gX3_type_X3_needRope rfl rfl rfl (by decide +kernel) ⟨Nat.le_of_ble_eq_true rfl, Nat.le_of_ble_eq_true rfl⟩) ⟨fun a U g mk q => by obtain ⟨q0, q1, qP, qK, qD, qG⟩ := q; exact ⟨q0, q1, qP, va_K.moved (u := U) (U := U.calling g mk a) (Vm.Alike.refl U.vm) qK, qD, gv.fb qG⟩, fun U hU hW => ⟨rfl, by rw [hU], by rw [hU]; exact hPc, va_K.moved hW.alike hKc, hDc.weaken (fun _ _ _ _ => trivial), gv.pass hW hU hS hFc hG⟩⟩ rfl rfl hl.1 rfl (lv_room (Nat.le_of_ble_eq_true rfl)) dX3_type_1 ⟨Nat.le_of_ble_eq_true rfl, Nat.le_of_ble_eq_true rfl⟩) hS (fun q _ h => hFc q h) hFc (fun q _ h => hFc q h) (fun E ce q9 u t H1 locs ht hvm hpx hB hz1 hk1 hS hce hcv hcl => ?_) (fun u t H1 locs ht hvm hw hB hz1 hk1 hS => hw.elim)
  obtain ⟨rfl, hP1, hK1, hD1⟩ := hB
  rw [ht] at hP1
  have hK1 := va_K.moved hvm.symm hK1
  obtain ⟨hP, hD⟩ := va_join (wr := [(h0, .inr (7, [.ref z0, .ref z1, .ref z2, .ref z3, .ref z4, .ref z5, .int 0, .int 0, .int 0]))]) (w1 := []) hP hD [] [0] rfl rfl (by decide) (by decide) hk1 hFc hP1 hD1
  generalize H1 = H at hP hS hce ⊢
  have hP : va_P (dC, dI) vwCl [(h0, .inr (7, [.ref z0, .ref z1, .ref z2, .ref z3, .ref z4, .ref z5, .int 0, .int 0, .int 0]))] H := hP
  have hD : va_D A [(h0, .inr (7, [.ref z0, .ref z1, .ref z2, .ref z3, .ref z4, .ref z5, .int 0, .int 0, .int 0]))] := hD
  exact vx_out (fun x hx9 => (ht9 x hx9).elim) hlocks hce hcv hcl (fun t ht hW => ⟨(), trivial, ⟨rfl, by rw [ht]; exact hP, va_K.moved hW hK, hD⟩, hS.F ht⟩) hS.2.2 (by omega) (by omega)
set_option maxHeartbeats 4000000 in
set_option maxRecDepth 100000 in
theorem kx_L_type_1 (l : Launch) (hst : l.stackTraces = false) (dC : Nat → ClassId) (dI : Nat → Nat → Nat) (ge5 gea gv5 gva gde gic gi0 : Nat) (h0 : Nat) (z0 : Nat) (z1 : Nat) (z2 : Nat) (z3 : Nat) (z4 : Nat) (z5 : Nat) (z6 : Nat) (sz : Nat) (i0 : Int32) (i0_l : (4 : Int) ≤ i0.toInt) (i0_u : i0.toInt ≤ (2147483647 : Int)) (i1 : Int32) (i1_l : ((-2147483648) : Int) ≤ i1.toInt) (i1_u : i1.toInt ≤ (2147483647 : Int)) (i2 : Int32) (i2_l : ((-2147483648) : Int) ≤ i2.toInt) (i2_u : i2.toInt ≤ (2147483647 : Int)) (i3 : Int32) (i3_l : ((-2147483648) : Int) ≤ i3.toInt) (i3_u : i3.toInt ≤ (2147483647 : Int)) (i4 : Int32) (i4_l : ((-2147483648) : Int) ≤ i4.toInt) (i4_u : i4.toInt ≤ (2147483647 : Int)) (i5 : Int32) (i5_l : ((-2147483648) : Int) ≤ i5.toInt) (i5_u : i5.toInt ≤ (2147483647 : Int)) : Met l yL_type wsL_type ({ frames := 8, cells := 1, slots := 6, locals := 167 }) (va_Pc [.ref h0, .int i0, .int i1, .int i2, .int i3, .int i4, .int i5, .ref z0] (fun U => U.heap.size = sz ∧ va_P (dC, dI) vwCl [(h0, .inr (7, [.ref z1, .ref z2, .ref z3, .ref z4, .ref z5, .ref z6, .int 0, .int 0, .int 0]))] U.heap ∧ va_K (dC, dI) vwCl [] U ∧ va_D (fun _ => True) [(h0, .inr (7, [.ref z1, .ref z2, .ref z3, .ref z4, .ref z5, .ref z6, .int 0, .int 0, .int 0]))] ∧ gv ge5 gea gv5 gva gde gic gi0 (va_A [(h0, .inr (7, [.ref z1, .ref z2, .ref z3, .ref z4, .ref z5, .ref z6, .int 0, .int 0, .int 0]))] sz) U U.heap)) (va_Qi (fun (r : Int32) (_ : Unit) => r = 1) (fun (_ : Unit) (t : State) => va_P (dC, dI) vwCl [(h0, .inr (7, [.ref z1, .ref z2, .ref z3, .ref z4, .ref z5, .ref z6, .int 0, .int 0, .int 0]))] t.heap ∧ va_K (dC, dI) vwCl [] t ∧ va_D (va_A [(h0, .inr (7, [.ref z1, .ref z2, .ref z3, .ref z4, .ref z5, .ref z6, .int 0, .int 0, .int 0]))] sz) [(h0, .inr (7, [.ref z1, .ref z2, .ref z3, .ref z4, .ref z5, .ref z6, .int 0, .int 0, .int 0]))]) (va_A [(h0, .inr (7, [.ref z1, .ref z2, .ref z3, .ref z4, .ref z5, .ref z6, .int 0, .int 0, .int 0]))] sz)) 1 6 (va_A [(h0, .inr (7, [.ref z1, .ref z2, .ref z3, .ref z4, .ref z5, .ref z6, .int 0, .int 0, .int 0]))] sz) := by
  refine kz_ofWH (cc := cL_type) (maxL := 9) (ret := (some .int)) (hh := [(0, 19, 22, 19), (0, 19, 26, 21), (0, 19, 30, 23)]) (by decide) rfl ?_
  intro p e s m args below meth c s₁ B hml hv
  obtain ⟨rfl, hsz, hP, hK, hD0, hG⟩ := hv
  have hx := B.exec
  have hb := B.bytes
  have hr := B.returns
  have hts := atoms_spec (ws := wsL_type) B.pre
  have hown : s.vm.findClass RL = some m.cls := findClass_of_methodNamed B.named
  have htab := vx_table (x := yL_type) B (hts (.codeWith yL_type cL_type 9 (some .int) [(0, 19, 22, 19), (0, 19, 26, 21), (0, 19, 30, 23)]) (by decide +kernel))
  have hlocks := B.notSynchronized
  subst hsz
  have hD := hD0.self (sz := s.heap.size)
  generalize hAe : va_A [(h0, .inr (7, [.ref z1, .ref z2, .ref z3, .ref z4, .ref z5, .ref z6, .int 0, .int 0, .int 0]))] s.heap.size = A at hD hG ⊢
  obtain ⟨⟨g_AO_Text, g_AO_String, g_AO_Object, g_nm_RX1_20, g_nm_RX0_17, g_nm_RX3_31, g_nm_RX2_44, g_nm_RL_121, g_nf_RL_13, g_nf_RL_47, g_ca_IO, g_ca_IA, g_ca_IS, g_ca_IntObj, g_ca_StrObj, g_de_RT, g_de_EX, g_de_TH, g_nc_IA_IO, g_nc_IS_IO, g_nc_IS_IA⟩, ⟨g_s3, g_s5, g_sa, g_x278, g_x280, g_x282, g_x284, g_x286, g_x180, g_x238, g_x250⟩, ⟨g_o5, g_c5, g_v5, g_t5, g_oa, g_ca, g_va, g_ta, g_zc, g_zd, g_td, g_zf, g_zU, g_zN, g_zh, g_zk, g_tk, g_oi, g_vi⟩⟩ := id hG
  have hA : ∀ q : Nat, s.heap.size ≤ q → A q := fun q h => by rw [← hAe]; exact Or.inr h
  have hS : va_S A s.heap s.heap [] := va_S.rf
  have hP : va_P (dC, dI) vwCl [(h0, .inr (7, [.ref z1, .ref z2, .ref z3, .ref z4, .ref z5, .ref z6, .int 0, .int 0, .int 0]))] s.heap := hP
  have hl := lv_entry ([.ref h0, .int i0, .int i1, .int i2, .int i3, .int i4, .int i5, .ref z0]) (n := 9) (Nat.le_of_ble_eq_true rfl)
  rw [lg_entry_eq]
  generalize (lg_sl ([.ref h0, .int i0, .int i1, .int i2, .int i3, .int i4, .int i5, .ref z0]) ++ List.replicate (9 - (lg_sl ([.ref h0, .int i0, .int i1, .int i2, .int i3, .int i4, .int i5, .ref z0])).length) Slot.unset).toArray = ls at hl ⊢
  have hl : lv_has ls 9 [(0, .ref h0), (1, .int i0), (2, .int i1), (3, .int i2), (4, .int i3), (5, .int i4), (6, .int i5), (7, .ref z0)] := hl
  refine lv_aload hx hb dL_type_0 (lv_at hl 7 rfl) ?_
  refine lv_aload_n hx hb dL_type_2 rfl (lv_at hl 0 rfl) ?_
  refine lv_iload_n hx hb dL_type_3 rfl (lv_at hl 1 rfl) ?_
  refine lv_iload_n hx hb dL_type_4 rfl (lv_at hl 2 rfl) ?_
  refine lv_iload_n hx hb dL_type_5 rfl (lv_at hl 3 rfl) ?_
  refine lv_iload hx hb dL_type_6 (lv_at hl 4 rfl) ?_
  refine lv_iload hx hb dL_type_8 (lv_at hl 5 rfl) ?_
  refine lv_iload hx hb dL_type_10 (lv_at hl 6 rfl) ?_
  have hPc := hP.sub (ws' := [(h0, .inr (7, [.ref z1, .ref z2, .ref z3, .ref z4, .ref z5, .ref z6, .int 0, .int 0, .int 0]))]) [0] rfl
  have hDc := hD.sub (ws' := [(h0, .inr (7, [.ref z1, .ref z2, .ref z3, .ref z4, .ref z5, .ref z6, .int 0, .int 0, .int 0]))]) [0] (by decide) rfl
  have hKc := hK.sub (tys' := []) [] rfl
  have hFc := va_free (wc := [(h0, .inr (7, [.ref z1, .ref z2, .ref z3, .ref z4, .ref z5, .ref z6, .int 0, .int 0, .int 0]))]) hD hS hA [0] rfl
  refine vx_calli (vx_runV (As := [.int i0, .int i1, .int i2, .int i3, .int i4, .int i5]) (rest := [.ref z0]) ⟨hx, hb, hml, hown, hts⟩ (kx_X3_type_1 l hst dC dI ge5 gea gv5 gva gde gic gi0 h0 z1 z2 z3 z4 z5 z6 s.heap.size i0 i0_l i0_u i1 i1_l i1_u i2 i2_l i2_u i3 i3_l i3_u i4 i4_l i4_u i5 i5_l i5_u) (cwV 6 hts gL_type_X3_type rfl rfl rfl (by decide +kernel) ⟨Nat.le_of_ble_eq_true rfl, Nat.le_of_ble_eq_true rfl⟩) ⟨fun a U g mk q => by obtain ⟨q0, q1, qP, qK, qD, qG⟩ := q; exact ⟨q0, q1, qP, va_K.moved (u := U) (U := U.calling g mk a) (Vm.Alike.refl U.vm) qK, qD, gv.fb qG⟩, va_recv hKc hPc (ci := 7) (q0 := 0) rfl rfl, fun U hU hW => ⟨rfl, by rw [hU], by rw [hU]; exact hPc, va_K.moved hW.alike hKc, hDc.weaken (fun _ _ _ _ => trivial), gv.pass hW hU hS hFc hG⟩⟩ rfl rfl hl.1 rfl (lv_room (Nat.le_of_ble_eq_true rfl)) dL_type_12 ⟨Nat.le_of_ble_eq_true rfl, Nat.le_of_ble_eq_true rfl⟩) hS (fun q _ h => hFc q h) hFc (fun q _ h => hFc q h) (fun E ce q9 u t H1 locs ht hvm hpx hB hz1 hk1 hS hce hcv hcl => ?_) (fun r9 u t H1 locs ht hvm hw hB hz1 hk1 hS => hw.elim)
  obtain ⟨rfl, hP1, hK1, hD1⟩ := hB
  rw [ht] at hP1
  have hK1 := va_K.moved hvm.symm hK1
  obtain ⟨hP, hD⟩ := va_join (wr := []) (w1 := [(h0, .inr (7, [.ref z1, .ref z2, .ref z3, .ref z4, .ref z5, .ref z6, .int 0, .int 0, .int 0]))]) hP hD [0] [] rfl rfl (by decide) (by decide) hk1 hFc hP1 hD1
  generalize H1 = H at hP hS hce ⊢
  have hP : va_P (dC, dI) vwCl [(h0, .inr (7, [.ref z1, .ref z2, .ref z3, .ref z4, .ref z5, .ref z6, .int 0, .int 0, .int 0]))] H := hP
  have hD : va_D A [(h0, .inr (7, [.ref z1, .ref z2, .ref z3, .ref z4, .ref z5, .ref z6, .int 0, .int 0, .int 0]))] := hD
  refine vx_catch (own := RL) (name := "java/lang/IndexOutOfBoundsException") hown (tableOf []) ⟨0, 19, 22, 19⟩ (tableOf [(0, 19, 26, 21), (0, 19, 30, 23)]) (by rw [htab]; rfl) (fun z hz => nomatch hz) (by decide +kernel) (by decide) (hts (.classLink RL 19 "java/lang/IndexOutOfBoundsException") (by decide +kernel)) (va_Nw.use rfl g_ca_IO) hce hcv hcl ?_
  refine W.eq (g2 := F0 m 22 ls [.ref q9]) rfl ?_
  refine lv_astore (lv' := [(8, .ref q9), (0, .ref h0), (1, .int i0), (2, .int i1), (3, .int i2), (4, .int i3), (5, .int i4), (6, .int i5), (7, .ref z0)]) hx hb dL_type_22 hl (by decide) rfl (fun ls hl => ?_)
  refine lv_iconst (v := 1) hx hb dL_type_24 (by decide) ?_
  exact W.iret (v := 1) hx hb hr (fun t ht hW => ⟨⟨1, (), rfl, rfl, by rw [ht]; exact hP, va_K.moved hW.alike hK, hD⟩, hS.F ht⟩) hS.2.2 dL_type_25
set_option maxHeartbeats 4000000 in
set_option maxRecDepth 100000 in
theorem kx_X3_needLetterOrNone_2 (l : Launch) (hst : l.stackTraces = false) (dC : Nat → ClassId) (dI : Nat → Nat → Nat) (ge5 gea gv5 gva gde gic gi0 : Nat) (sz : Nat) (i0 : Int32) (i0_l : ((-2147483648) : Int) ≤ i0.toInt) (i0_u : i0.toInt ≤ ((-2) : Int)) : vx_Met l yX3_needLetterOrNone wsX3_needLetterOrNone ({ frames := 6, cells := 1, slots := 6, locals := 120 }) (va_Pc [.int i0] (fun U => U.heap.size = sz ∧ va_P (dC, dI) vwCl [] U.heap ∧ va_K (dC, dI) vwCl [] U ∧ va_D (fun _ => True) [] ∧ gv ge5 gea gv5 gva gde gic gi0 (va_A [] sz) U U.heap)) (va_Qv (fun _ : Unit => False) (fun _ _ => True) (va_A [] sz)) (vx_X (fun _ : Unit => True) (fun (E : String) (_ : Unit) (t : State) => E = "java/lang/IllegalArgumentException" ∧ va_P (dC, dI) vwCl [] t.heap ∧ va_K (dC, dI) vwCl [] t ∧ va_D (va_A [] sz) []) (va_A [] sz)) 1 6 (va_A [] sz) := by
  refine vx_ofW (cc := cX3_needLetterOrNone) (maxL := 1) (ret := none) (by decide) rfl ?_
  intro p e s m args below meth c s₁ B hml ht9 hv
  obtain ⟨rfl, hsz, hP, hK, hD0, hG⟩ := hv
  have hx := B.exec
  have hb := B.bytes
  have hr := B.returns
  have hts := atoms_spec (ws := wsX3_needLetterOrNone) B.pre
  have hown : s.vm.findClass RX3 = some m.cls := findClass_of_methodNamed B.named
  have hlocks := B.notSynchronized
  subst hsz
  have hD := hD0.self (sz := s.heap.size)
  generalize hAe : va_A [] s.heap.size = A at hD hG ⊢
  obtain ⟨⟨g_AO_Text, g_AO_String, g_AO_Object, g_nm_RX1_20, g_nm_RX0_17, g_nm_RX3_31, g_nm_RX2_44, g_nm_RL_121, g_nf_RL_13, g_nf_RL_47, g_ca_IO, g_ca_IA, g_ca_IS, g_ca_IntObj, g_ca_StrObj, g_de_RT, g_de_EX, g_de_TH, g_nc_IA_IO, g_nc_IS_IO, g_nc_IS_IA⟩, ⟨g_s3, g_s5, g_sa, g_x278, g_x280, g_x282, g_x284, g_x286, g_x180, g_x238, g_x250⟩, ⟨g_o5, g_c5, g_v5, g_t5, g_oa, g_ca, g_va, g_ta, g_zc, g_zd, g_td, g_zf, g_zU, g_zN, g_zh, g_zk, g_tk, g_oi, g_vi⟩⟩ := id hG
  have hA : ∀ q : Nat, s.heap.size ≤ q → A q := fun q h => by rw [← hAe]; exact Or.inr h
  have hS : va_S A s.heap s.heap [] := va_S.rf
  have hP : va_P (dC, dI) vwCl [] s.heap := hP
  have hl := lv_entry ([.int i0]) (n := 1) (Nat.le_of_ble_eq_true rfl)
  rw [lg_entry_eq]
  generalize (lg_sl ([.int i0]) ++ List.replicate (1 - (lg_sl ([.int i0])).length) Slot.unset).toArray = ls at hl ⊢
  have hl : lv_has ls 1 [(0, .int i0)] := hl
  refine lv_iload_n hx hb dX3_needLetterOrNone_0 rfl (lv_at hl 0 rfl) ?_
  refine lv_iconst (v := (-1)) hx hb dX3_needLetterOrNone_1 (by decide) ?_
  refine lv_icmp_lt (tgt := 10) hx hb dX3_needLetterOrNone_2 (by decide) (fun _ => ?_) (fun c9 => absurd (Int32.lt_iff_toInt_lt.mpr (by rw [show ((-1) : Int32).toInt = (-1) from by decide]; omega)) c9)
  obtain ⟨sa9, hsa9⟩ := g_x284
  have hin9 : ∀ w ∈ (vx_atS RX3 99 "java/lang/IllegalArgumentException" ["java/lang/RuntimeException", "java/lang/Exception"]).filter goodWord, w ∈ wsX3_needLetterOrNone := (by intro w hw; first | exact List.mem_cons_of_mem _ (List.mem_append_right _ hw) | exact List.mem_cons_of_mem _ (List.mem_append_left _ (List.mem_append_right _ hw)))
  exact vx_throwSW (cls := "java/lang/IllegalArgumentException") (text := "no such letter") (names := ["java/lang/RuntimeException", "java/lang/Exception"]) (ic := 99) hx hb hst hown (by decide) (by decide) (hts (.classLink RX3 95 "java/lang/IllegalArgumentException") (by decide +kernel)) (hts (.initialized "java/lang/IllegalArgumentException") (by decide +kernel)) hsa9 (vx_hat (B := [.declares (Bundle.initS "java/lang/RuntimeException"), .declares (Bundle.initS "java/lang/Exception"), .declares (Bundle.initS Bundle.tN), .castable "java/lang/IllegalArgumentException" "java/lang/IllegalArgumentException"]) (fun w hw => hts w (hin9 w hw)) (fun w hw => by rw [xbad_IA] at hw; exact hw) (vx_c (va_Nw.use rfl g_de_RT) (vx_c (va_Nw.use rfl g_de_EX) (vx_c (va_Nw.use rfl g_de_TH) (vx_c (va_Nw.use rfl g_ca_IA) vx_n))))) (by decide +kernel) g_zU g_zN hS (by rw [hml]; exact hl.1) dX3_needLetterOrNone_10 dX3_needLetterOrNone_13 dX3_needLetterOrNone_14 dX3_needLetterOrNone_17 dX3_needLetterOrNone_20 (fun x hx9 => (ht9 x hx9).elim) (Nat.le_of_ble_eq_true rfl) (Nat.le_of_ble_eq_true rfl) (Nat.le_of_ble_eq_true rfl) (Nat.le_of_ble_eq_true rfl) hlocks (fun t ha hz hk => ⟨(), trivial, ⟨rfl, hP.kept (fun k q hq => hk _ (vx_lt hP hq)), va_K.moved ha hK, hD⟩, Nat.le_trans hS.1 hz, fun q h1 h2 => (hk q (Nat.lt_of_lt_of_le h1 hS.1)).trans (hS.2.1 q h1 h2)⟩) hS.2.2 (Nat.le_refl _) (Nat.le_refl _)
set_option maxHeartbeats 4000000 in
set_option maxRecDepth 100000 in
theorem kx_X3_type_2 (l : Launch) (hst : l.stackTraces = false) (dC : Nat → ClassId) (dI : Nat → Nat → Nat) (ge5 gea gv5 gva gde gic gi0 : Nat) (h0 : Nat) (z0 : Nat) (z1 : Nat) (z2 : Nat) (z3 : Nat) (z4 : Nat) (z5 : Nat) (sz : Nat) (i0 : Int32) (i0_l : (0 : Int) ≤ i0.toInt) (i0_u : i0.toInt ≤ (3 : Int)) (i1 : Int32) (i1_l : ((-2147483648) : Int) ≤ i1.toInt) (i1_u : i1.toInt ≤ ((-2) : Int)) (i2 : Int32) (i2_l : ((-2147483648) : Int) ≤ i2.toInt) (i2_u : i2.toInt ≤ (2147483647 : Int)) (i3 : Int32) (i3_l : ((-2147483648) : Int) ≤ i3.toInt) (i3_u : i3.toInt ≤ (2147483647 : Int)) (i4 : Int32) (i4_l : ((-2147483648) : Int) ≤ i4.toInt) (i4_u : i4.toInt ≤ (2147483647 : Int)) (i5 : Int32) (i5_l : ((-2147483648) : Int) ≤ i5.toInt) (i5_u : i5.toInt ≤ (2147483647 : Int)) : vx_Met l yX3_type wsX3_type ({ frames := 7, cells := 1, slots := 6, locals := 140 }) (va_Pc [.ref h0, .int i0, .int i1, .int i2, .int i3, .int i4, .int i5] (fun U => U.heap.size = sz ∧ va_P (dC, dI) vwCl [(h0, .inr (7, [.ref z0, .ref z1, .ref z2, .ref z3, .ref z4, .ref z5, .int 0, .int 0, .int 0]))] U.heap ∧ va_K (dC, dI) vwCl [] U ∧ va_D (fun _ => True) [(h0, .inr (7, [.ref z0, .ref z1, .ref z2, .ref z3, .ref z4, .ref z5, .int 0, .int 0, .int 0]))] ∧ gv ge5 gea gv5 gva gde gic gi0 (va_A [(h0, .inr (7, [.ref z0, .ref z1, .ref z2, .ref z3, .ref z4, .ref z5, .int 0, .int 0, .int 0]))] sz) U U.heap)) (va_Qi (fun (_ : Int32) (_ : Unit) => False) (fun _ _ => True) (va_A [(h0, .inr (7, [.ref z0, .ref z1, .ref z2, .ref z3, .ref z4, .ref z5, .int 0, .int 0, .int 0]))] sz)) (vx_X (fun _ : Unit => True) (fun (E : String) (_ : Unit) (t : State) => E = "java/lang/IllegalArgumentException" ∧ va_P (dC, dI) vwCl [(h0, .inr (7, [.ref z0, .ref z1, .ref z2, .ref z3, .ref z4, .ref z5, .int 0, .int 0, .int 0]))] t.heap ∧ va_K (dC, dI) vwCl [] t ∧ va_D (va_A [(h0, .inr (7, [.ref z0, .ref z1, .ref z2, .ref z3, .ref z4, .ref z5, .int 0, .int 0, .int 0]))] sz) [(h0, .inr (7, [.ref z0, .ref z1, .ref z2, .ref z3, .ref z4, .ref z5, .int 0, .int 0, .int 0]))]) (va_A [(h0, .inr (7, [.ref z0, .ref z1, .ref z2, .ref z3, .ref z4, .ref z5, .int 0, .int 0, .int 0]))] sz)) 1 6 (va_A [(h0, .inr (7, [.ref z0, .ref z1, .ref z2, .ref z3, .ref z4, .ref z5, .int 0, .int 0, .int 0]))] sz) := by
  refine vx_ofW (cc := cX3_type) (maxL := 8) (ret := (some .int)) (by decide) rfl ?_
  intro p e s m args below meth c s₁ B hml ht9 hv
  obtain ⟨rfl, hsz, hP, hK, hD0, hG⟩ := hv
  have hx := B.exec
  have hb := B.bytes
  have hr := B.returns
  have hts := atoms_spec (ws := wsX3_type) B.pre
  have hown : s.vm.findClass RX3 = some m.cls := findClass_of_methodNamed B.named
  have hlocks := B.notSynchronized
  subst hsz
  have hD := hD0.self (sz := s.heap.size)
  generalize hAe : va_A [(h0, .inr (7, [.ref z0, .ref z1, .ref z2, .ref z3, .ref z4, .ref z5, .int 0, .int 0, .int 0]))] s.heap.size = A at hD hG ⊢
  obtain ⟨⟨g_AO_Text, g_AO_String, g_AO_Object, g_nm_RX1_20, g_nm_RX0_17, g_nm_RX3_31, g_nm_RX2_44, g_nm_RL_121, g_nf_RL_13, g_nf_RL_47, g_ca_IO, g_ca_IA, g_ca_IS, g_ca_IntObj, g_ca_StrObj, g_de_RT, g_de_EX, g_de_TH, g_nc_IA_IO, g_nc_IS_IO, g_nc_IS_IA⟩, ⟨g_s3, g_s5, g_sa, g_x278, g_x280, g_x282, g_x284, g_x286, g_x180, g_x238, g_x250⟩, ⟨g_o5, g_c5, g_v5, g_t5, g_oa, g_ca, g_va, g_ta, g_zc, g_zd, g_td, g_zf, g_zU, g_zN, g_zh, g_zk, g_tk, g_oi, g_vi⟩⟩ := id hG
  have hA : ∀ q : Nat, s.heap.size ≤ q → A q := fun q h => by rw [← hAe]; exact Or.inr h
  have hS : va_S A s.heap s.heap [] := va_S.rf
  have hP : va_P (dC, dI) vwCl [(h0, .inr (7, [.ref z0, .ref z1, .ref z2, .ref z3, .ref z4, .ref z5, .int 0, .int 0, .int 0]))] s.heap := hP
  have hl := lv_entry ([.ref h0, .int i0, .int i1, .int i2, .int i3, .int i4, .int i5]) (n := 8) (Nat.le_of_ble_eq_true rfl)
  rw [lg_entry_eq]
  generalize (lg_sl ([.ref h0, .int i0, .int i1, .int i2, .int i3, .int i4, .int i5]) ++ List.replicate (8 - (lg_sl ([.ref h0, .int i0, .int i1, .int i2, .int i3, .int i4, .int i5])).length) Slot.unset).toArray = ls at hl ⊢
  have hl : lv_has ls 8 [(0, .ref h0), (1, .int i0), (2, .int i1), (3, .int i2), (4, .int i3), (5, .int i4), (6, .int i5)] := hl
  refine lv_iload_n hx hb dX3_type_0 rfl (lv_at hl 1 rfl) ?_
  have hPc := hP.sub (ws' := []) [] rfl
  have hDc := hD.sub (ws' := []) [] (by decide) rfl
  have hKc := hK.sub (tys' := []) [] rfl
  have hFc := va_free (wc := []) hD hS hA [] rfl
  refine va_callv (va_runS (As := [.int i0]) (rest := []) ⟨hx, hb, hml, hown, hts⟩ (kx_X3_needRope_4 l dC dI s.heap.size i0 i0_l i0_u) (cwS 1 hts gX3_type_X3_needRope rfl rfl rfl (by decide +kernel) ⟨Nat.le_of_ble_eq_true rfl, Nat.le_of_ble_eq_true rfl⟩) ⟨fun a U g mk q => by obtain ⟨q0, q1, qP, qK, qD⟩ := q; exact ⟨q0, q1, qP, va_K.moved (u := U) (U := U.calling g mk a) (Vm.Alike.refl U.vm) qK, qD⟩, fun U hU hW => ⟨rfl, by rw [hU], by rw [hU]; exact hPc, va_K.moved hW.alike hKc, hDc.weaken (fun _ _ _ _ => trivial)⟩⟩ rfl rfl hl.1 rfl (lv_room (Nat.le_of_ble_eq_true rfl)) dX3_type_1 ⟨Nat.le_of_ble_eq_true rfl, Nat.le_of_ble_eq_true rfl⟩) hS (fun q _ h => hFc q h) hFc (fun u t H1 locs ht hvm hw hB hz1 hk1 hS => ?_)
  obtain ⟨hP1, hK1, hD1⟩ := hB
  rw [ht] at hP1
  have hK1 := va_K.moved hvm.symm hK1
  obtain ⟨hP, hD⟩ := va_join (wr := [(h0, .inr (7, [.ref z0, .ref z1, .ref z2, .ref z3, .ref z4, .ref z5, .int 0, .int 0, .int 0]))]) (w1 := []) hP hD [] [0] rfl rfl (by decide) (by decide) hk1 hFc hP1 hD1
  generalize H1 = H at hP hS ⊢
  have hP : va_P (dC, dI) vwCl [(h0, .inr (7, [.ref z0, .ref z1, .ref z2, .ref z3, .ref z4, .ref z5, .int 0, .int 0, .int 0]))] H := hP
  have hD : va_D A [(h0, .inr (7, [.ref z0, .ref z1, .ref z2, .ref z3, .ref z4, .ref z5, .int 0, .int 0, .int 0]))] := hD
  refine lv_iload_n hx hb dX3_type_4 rfl (lv_at hl 2 rfl) ?_
  have hPc := hP.sub (ws' := []) [] rfl
  have hDc := hD.sub (ws' := []) [] (by decide) rfl
  have hKc := hK.sub (tys' := []) [] rfl
  have hFc := va_free (wc := []) hD hS hA [] rfl
  refine vx_callv (vx_runS (As := [.int i1]) (rest := []) ⟨hx, hb, hml, hown, hts⟩ (kx_X3_needLetterOrNone_2 l hst dC dI ge5 gea gv5 gva gde gic gi0 H.size i1 i1_l i1_u) (cwS 1 hts gX3_type_X3_needLetterOrNone rfl rfl rfl (by decide +kernel) ⟨Nat.le_of_ble_eq_true rfl, Nat.le_of_ble_eq_true rfl⟩) ⟨fun a U g mk q => by obtain ⟨q0, q1, qP, qK, qD, qG⟩ := q; exact ⟨q0, q1, qP, va_K.moved (u := U) (U := U.calling g mk a) (Vm.Alike.refl U.vm) qK, qD, gv.fb qG⟩, fun U hU hW => ⟨rfl, by rw [hU], by rw [hU]; exact hPc, va_K.moved hW.alike hKc, hDc.weaken (fun _ _ _ _ => trivial), gv.pass hW hU hS hFc hG⟩⟩ rfl rfl hl.1 rfl (lv_room (Nat.le_of_ble_eq_true rfl)) dX3_type_5 ⟨Nat.le_of_ble_eq_true rfl, Nat.le_of_ble_eq_true rfl⟩) hS (fun q _ h => hFc q h) hFc (fun q _ h => hFc q h) (fun E ce q9 u t H1 locs ht hvm hpx hB hz1 hk1 hS hce hcv hcl => ?_) (fun u t H1 locs ht hvm hw hB hz1 hk1 hS => hw.elim)
  obtain ⟨rfl, hP1, hK1, hD1⟩ := hB
  rw [ht] at hP1
  have hK1 := va_K.moved hvm.symm hK1
  obtain ⟨hP, hD⟩ := va_join (wr := [(h0, .inr (7, [.ref z0, .ref z1, .ref z2, .ref z3, .ref z4, .ref z5, .int 0, .int 0, .int 0]))]) (w1 := []) hP hD [] [0] rfl rfl (by decide) (by decide) hk1 hFc hP1 hD1
  generalize H1 = H at hP hS hce ⊢
  have hP : va_P (dC, dI) vwCl [(h0, .inr (7, [.ref z0, .ref z1, .ref z2, .ref z3, .ref z4, .ref z5, .int 0, .int 0, .int 0]))] H := hP
  have hD : va_D A [(h0, .inr (7, [.ref z0, .ref z1, .ref z2, .ref z3, .ref z4, .ref z5, .int 0, .int 0, .int 0]))] := hD
  exact vx_out (fun x hx9 => (ht9 x hx9).elim) hlocks hce hcv hcl (fun t ht hW => ⟨(), trivial, ⟨rfl, by rw [ht]; exact hP, va_K.moved hW hK, hD⟩, hS.F ht⟩) hS.2.2 (by omega) (by omega)
set_option maxHeartbeats 4000000 in
set_option maxRecDepth 100000 in
theorem kx_L_type_2 (l : Launch) (hst : l.stackTraces = false) (dC : Nat → ClassId) (dI : Nat → Nat → Nat) (ge5 gea gv5 gva gde gic gi0 : Nat) (h0 : Nat) (z0 : Nat) (z1 : Nat) (z2 : Nat) (z3 : Nat) (z4 : Nat) (z5 : Nat) (z6 : Nat) (sz : Nat) (i0 : Int32) (i0_l : (0 : Int) ≤ i0.toInt) (i0_u : i0.toInt ≤ (3 : Int)) (i1 : Int32) (i1_l : ((-2147483648) : Int) ≤ i1.toInt) (i1_u : i1.toInt ≤ ((-2) : Int)) (i2 : Int32) (i2_l : ((-2147483648) : Int) ≤ i2.toInt) (i2_u : i2.toInt ≤ (2147483647 : Int)) (i3 : Int32) (i3_l : ((-2147483648) : Int) ≤ i3.toInt) (i3_u : i3.toInt ≤ (2147483647 : Int)) (i4 : Int32) (i4_l : ((-2147483648) : Int) ≤ i4.toInt) (i4_u : i4.toInt ≤ (2147483647 : Int)) (i5 : Int32) (i5_l : ((-2147483648) : Int) ≤ i5.toInt) (i5_u : i5.toInt ≤ (2147483647 : Int)) : Met l yL_type wsL_type ({ frames := 8, cells := 1, slots := 6, locals := 167 }) (va_Pc [.ref h0, .int i0, .int i1, .int i2, .int i3, .int i4, .int i5, .ref z0] (fun U => U.heap.size = sz ∧ va_P (dC, dI) vwCl [(h0, .inr (7, [.ref z1, .ref z2, .ref z3, .ref z4, .ref z5, .ref z6, .int 0, .int 0, .int 0]))] U.heap ∧ va_K (dC, dI) vwCl [] U ∧ va_D (fun _ => True) [(h0, .inr (7, [.ref z1, .ref z2, .ref z3, .ref z4, .ref z5, .ref z6, .int 0, .int 0, .int 0]))] ∧ gv ge5 gea gv5 gva gde gic gi0 (va_A [(h0, .inr (7, [.ref z1, .ref z2, .ref z3, .ref z4, .ref z5, .ref z6, .int 0, .int 0, .int 0]))] sz) U U.heap)) (va_Qi (fun (r : Int32) (_ : Unit) => r = 2) (fun (_ : Unit) (t : State) => va_P (dC, dI) vwCl [(h0, .inr (7, [.ref z1, .ref z2, .ref z3, .ref z4, .ref z5, .ref z6, .int 0, .int 0, .int 0]))] t.heap ∧ va_K (dC, dI) vwCl [] t ∧ va_D (va_A [(h0, .inr (7, [.ref z1, .ref z2, .ref z3, .ref z4, .ref z5, .ref z6, .int 0, .int 0, .int 0]))] sz) [(h0, .inr (7, [.ref z1, .ref z2, .ref z3, .ref z4, .ref z5, .ref z6, .int 0, .int 0, .int 0]))]) (va_A [(h0, .inr (7, [.ref z1, .ref z2, .ref z3, .ref z4, .ref z5, .ref z6, .int 0, .int 0, .int 0]))] sz)) 1 6 (va_A [(h0, .inr (7, [.ref z1, .ref z2, .ref z3, .ref z4, .ref z5, .ref z6, .int 0, .int 0, .int 0]))] sz) := by
  refine kz_ofWH (cc := cL_type) (maxL := 9) (ret := (some .int)) (hh := [(0, 19, 22, 19), (0, 19, 26, 21), (0, 19, 30, 23)]) (by decide) rfl ?_
  intro p e s m args below meth c s₁ B hml hv
  obtain ⟨rfl, hsz, hP, hK, hD0, hG⟩ := hv
  have hx := B.exec
  have hb := B.bytes
  have hr := B.returns
  have hts := atoms_spec (ws := wsL_type) B.pre
  have hown : s.vm.findClass RL = some m.cls := findClass_of_methodNamed B.named
  have htab := vx_table (x := yL_type) B (hts (.codeWith yL_type cL_type 9 (some .int) [(0, 19, 22, 19), (0, 19, 26, 21), (0, 19, 30, 23)]) (by decide +kernel))
  have hlocks := B.notSynchronized
  subst hsz
  have hD := hD0.self (sz := s.heap.size)
  generalize hAe : va_A [(h0, .inr (7, [.ref z1, .ref z2, .ref z3, .ref z4, .ref z5, .ref z6, .int 0, .int 0, .int 0]))] s.heap.size = A at hD hG ⊢
  obtain ⟨⟨g_AO_Text, g_AO_String, g_AO_Object, g_nm_RX1_20, g_nm_RX0_17, g_nm_RX3_31, g_nm_RX2_44, g_nm_RL_121, g_nf_RL_13, g_nf_RL_47, g_ca_IO, g_ca_IA, g_ca_IS, g_ca_IntObj, g_ca_StrObj, g_de_RT, g_de_EX, g_de_TH, g_nc_IA_IO, g_nc_IS_IO, g_nc_IS_IA⟩, ⟨g_s3, g_s5, g_sa, g_x278, g_x280, g_x282, g_x284, g_x286, g_x180, g_x238, g_x250⟩, ⟨g_o5, g_c5, g_v5, g_t5, g_oa, g_ca, g_va, g_ta, g_zc, g_zd, g_td, g_zf, g_zU, g_zN, g_zh, g_zk, g_tk, g_oi, g_vi⟩⟩ := id hG
  have hA : ∀ q : Nat, s.heap.size ≤ q → A q := fun q h => by rw [← hAe]; exact Or.inr h
  have hS : va_S A s.heap s.heap [] := va_S.rf
  have hP : va_P (dC, dI) vwCl [(h0, .inr (7, [.ref z1, .ref z2, .ref z3, .ref z4, .ref z5, .ref z6, .int 0, .int 0, .int 0]))] s.heap := hP
  have hl := lv_entry ([.ref h0, .int i0, .int i1, .int i2, .int i3, .int i4, .int i5, .ref z0]) (n := 9) (Nat.le_of_ble_eq_true rfl)
  rw [lg_entry_eq]
  generalize (lg_sl ([.ref h0, .int i0, .int i1, .int i2, .int i3, .int i4, .int i5, .ref z0]) ++ List.replicate (9 - (lg_sl ([.ref h0, .int i0, .int i1, .int i2, .int i3, .int i4, .int i5, .ref z0])).length) Slot.unset).toArray = ls at hl ⊢
  have hl : lv_has ls 9 [(0, .ref h0), (1, .int i0), (2, .int i1), (3, .int i2), (4, .int i3), (5, .int i4), (6, .int i5), (7, .ref z0)] := hl
  refine lv_aload hx hb dL_type_0 (lv_at hl 7 rfl) ?_
  refine lv_aload_n hx hb dL_type_2 rfl (lv_at hl 0 rfl) ?_
  refine lv_iload_n hx hb dL_type_3 rfl (lv_at hl 1 rfl) ?_
  refine lv_iload_n hx hb dL_type_4 rfl (lv_at hl 2 rfl) ?_
  refine lv_iload_n hx hb dL_type_5 rfl (lv_at hl 3 rfl) ?_
  refine lv_iload hx hb dL_type_6 (lv_at hl 4 rfl) ?_
  refine lv_iload hx hb dL_type_8 (lv_at hl 5 rfl) ?_
  refine lv_iload hx hb dL_type_10 (lv_at hl 6 rfl) ?_
  have hPc := hP.sub (ws' := [(h0, .inr (7, [.ref z1, .ref z2, .ref z3, .ref z4, .ref z5, .ref z6, .int 0, .int 0, .int 0]))]) [0] rfl
  have hDc := hD.sub (ws' := [(h0, .inr (7, [.ref z1, .ref z2, .ref z3, .ref z4, .ref z5, .ref z6, .int 0, .int 0, .int 0]))]) [0] (by decide) rfl
  have hKc := hK.sub (tys' := []) [] rfl
  have hFc := va_free (wc := [(h0, .inr (7, [.ref z1, .ref z2, .ref z3, .ref z4, .ref z5, .ref z6, .int 0, .int 0, .int 0]))]) hD hS hA [0] rfl
  refine vx_calli (vx_runV (As := [.int i0, .int i1, .int i2, .int i3, .int i4, .int i5]) (rest := [.ref z0]) ⟨hx, hb, hml, hown, hts⟩ (kx_X3_type_2 l hst dC dI ge5 gea gv5 gva gde gic gi0 h0 z1 z2 z3 z4 z5 z6 s.heap.size i0 i0_l i0_u i1 i1_l i1_u i2 i2_l i2_u i3 i3_l i3_u i4 i4_l i4_u i5 i5_l i5_u) (cwV 6 hts gL_type_X3_type rfl rfl rfl (by decide +kernel) ⟨Nat.le_of_ble_eq_true rfl, Nat.le_of_ble_eq_true rfl⟩) ⟨fun a U g mk q => by obtain ⟨q0, q1, qP, qK, qD, qG⟩ := q; exact ⟨q0, q1, qP, va_K.moved (u := U) (U := U.calling g mk a) (Vm.Alike.refl U.vm) qK, qD, gv.fb qG⟩, va_recv hKc hPc (ci := 7) (q0 := 0) rfl rfl, fun U hU hW => ⟨rfl, by rw [hU], by rw [hU]; exact hPc, va_K.moved hW.alike hKc, hDc.weaken (fun _ _ _ _ => trivial), gv.pass hW hU hS hFc hG⟩⟩ rfl rfl hl.1 rfl (lv_room (Nat.le_of_ble_eq_true rfl)) dL_type_12 ⟨Nat.le_of_ble_eq_true rfl, Nat.le_of_ble_eq_true rfl⟩) hS (fun q _ h => hFc q h) hFc (fun q _ h => hFc q h) (fun E ce q9 u t H1 locs ht hvm hpx hB hz1 hk1 hS hce hcv hcl => ?_) (fun r9 u t H1 locs ht hvm hw hB hz1 hk1 hS => hw.elim)
  obtain ⟨rfl, hP1, hK1, hD1⟩ := hB
  rw [ht] at hP1
  have hK1 := va_K.moved hvm.symm hK1
  obtain ⟨hP, hD⟩ := va_join (wr := []) (w1 := [(h0, .inr (7, [.ref z1, .ref z2, .ref z3, .ref z4, .ref z5, .ref z6, .int 0, .int 0, .int 0]))]) hP hD [0] [] rfl rfl (by decide) (by decide) hk1 hFc hP1 hD1
  generalize H1 = H at hP hS hce ⊢
  have hP : va_P (dC, dI) vwCl [(h0, .inr (7, [.ref z1, .ref z2, .ref z3, .ref z4, .ref z5, .ref z6, .int 0, .int 0, .int 0]))] H := hP
  have hD : va_D A [(h0, .inr (7, [.ref z1, .ref z2, .ref z3, .ref z4, .ref z5, .ref z6, .int 0, .int 0, .int 0]))] := hD
  refine vx_catch (own := RL) (name := "java/lang/IllegalArgumentException") hown (tableOf [(0, 19, 22, 19)]) ⟨0, 19, 26, 21⟩ (tableOf [(0, 19, 30, 23)]) (by rw [htab]; rfl) (fun z hz => by
      simp only [tableOf, List.map_cons, List.map_nil, List.mem_cons, List.not_mem_nil, or_false] at hz
      rcases hz with rfl
      · exact Or.inr ⟨by decide, "java/lang/IndexOutOfBoundsException", hts (.classLink RL 19 "java/lang/IndexOutOfBoundsException") (by decide +kernel), g_nc_IA_IO⟩) (by decide +kernel) (by decide) (hts (.classLink RL 21 "java/lang/IllegalArgumentException") (by decide +kernel)) (va_Nw.use rfl g_ca_IA) hce hcv hcl ?_
  refine W.eq (g2 := F0 m 26 ls [.ref q9]) rfl ?_
  refine lv_astore (lv' := [(8, .ref q9), (0, .ref h0), (1, .int i0), (2, .int i1), (3, .int i2), (4, .int i3), (5, .int i4), (6, .int i5), (7, .ref z0)]) hx hb dL_type_26 hl (by decide) rfl (fun ls hl => ?_)
  refine lv_iconst (v := 2) hx hb dL_type_28 (by decide) ?_
  exact W.iret (v := 2) hx hb hr (fun t ht hW => ⟨⟨2, (), rfl, rfl, by rw [ht]; exact hP, va_K.moved hW.alike hK, hD⟩, hS.F ht⟩) hS.2.2 dL_type_29
set_option maxHeartbeats 4000000 in
set_option maxRecDepth 100000 in
theorem kx_X5_thrown_1 (l : Launch) (dC : Nat → ClassId) (dI : Nat → Nat → Nat) (h0 : Nat) (z0 : Nat) (z1 : Nat) (z2 : Nat) (sz : Nat) : Met l yX5_thrown wsX5_thrown ({ frames := 0, cells := 0, slots := 0, locals := 0 }) (va_Pc [.ref h0] (fun U => U.heap.size = sz ∧ va_P (dC, dI) vwCl [(h0, .inr (9, [.int 2, .ref z0, .ref z1, .ref z2, .int 0, .int 0, .int 0]))] U.heap ∧ va_K (dC, dI) vwCl [] U ∧ va_D (fun _ => True) [(h0, .inr (9, [.int 2, .ref z0, .ref z1, .ref z2, .int 0, .int 0, .int 0]))])) (va_Qi (fun (r : Int32) (_ : Unit) => r = 2) (fun (_ : Unit) (t : State) => va_P (dC, dI) vwCl [(h0, .inr (9, [.int 2, .ref z0, .ref z1, .ref z2, .int 0, .int 0, .int 0]))] t.heap ∧ va_K (dC, dI) vwCl [] t ∧ va_D (va_A [(h0, .inr (9, [.int 2, .ref z0, .ref z1, .ref z2, .int 0, .int 0, .int 0]))] sz) [(h0, .inr (9, [.int 2, .ref z0, .ref z1, .ref z2, .int 0, .int 0, .int 0]))]) (va_A [(h0, .inr (9, [.int 2, .ref z0, .ref z1, .ref z2, .int 0, .int 0, .int 0]))] sz)) 0 0 (va_A [(h0, .inr (9, [.int 2, .ref z0, .ref z1, .ref z2, .int 0, .int 0, .int 0]))] sz) := by
  refine Met.ofW (cc := cX5_thrown) (maxL := 1) (ret := (some .int)) (by decide) rfl ?_
  intro p e s m args below meth c s₁ B hml hv
  obtain ⟨rfl, hsz, hP, hK, hD0⟩ := hv
  have hx := B.exec
  have hb := B.bytes
  have hr := B.returns
  have hts := atoms_spec (ws := wsX5_thrown) B.pre
  have hown : s.vm.findClass RX5 = some m.cls := findClass_of_methodNamed B.named
  have hlocks := B.notSynchronized
  subst hsz
  have hD := hD0.self (sz := s.heap.size)
  generalize hAe : va_A [(h0, .inr (9, [.int 2, .ref z0, .ref z1, .ref z2, .int 0, .int 0, .int 0]))] s.heap.size = A at hD ⊢
  have hA : ∀ q : Nat, s.heap.size ≤ q → A q := fun q h => by rw [← hAe]; exact Or.inr h
  have hS : va_S A s.heap s.heap [] := va_S.rf
  have hP : va_P (dC, dI) vwCl [(h0, .inr (9, [.int 2, .ref z0, .ref z1, .ref z2, .int 0, .int 0, .int 0]))] s.heap := hP
  have hl := lv_entry ([.ref h0]) (n := 1) (Nat.le_of_ble_eq_true rfl)
  rw [lg_entry_eq]
  generalize (lg_sl ([.ref h0]) ++ List.replicate (1 - (lg_sl ([.ref h0])).length) Slot.unset).toArray = ls at hl ⊢
  have hl : lv_has ls 1 [(0, .ref h0)] := hl
  refine lv_aload_n hx hb dX5_thrown_0 rfl (lv_at hl 0 rfl) ?_
  refine va_get (D := (dC, dI)) (ci := 9) (v := .int 2) (C := RX5) (T := TX5) (N := 7) hx hb hts (by decide +kernel) hown hK hP 0 rfl rfl 0 (by decide) (hts (.fieldLink RX5 27 "RewriteropeModel" "thrown" "I") (by decide +kernel)) (fun _ h9 => h9) rfl dX5_thrown_1 ?_
  exact W.iret (v := 2) hx hb hr (fun t ht hW => ⟨⟨2, (), rfl, rfl, by rw [ht]; exact hP, va_K.moved hW.alike hK, hD⟩, hS.F ht⟩) hS.2.2 dX5_thrown_4
set_option maxHeartbeats 4000000 in
set_option maxRecDepth 100000 in
theorem kx_X3_needLetterOrNone_3 (l : Launch) (hst : l.stackTraces = false) (dC : Nat → ClassId) (dI : Nat → Nat → Nat) (ge5 gea gv5 gva gde gic gi0 : Nat) (sz : Nat) (i0 : Int32) (i0_l : (4 : Int) ≤ i0.toInt) (i0_u : i0.toInt ≤ (2147483647 : Int)) : vx_Met l yX3_needLetterOrNone wsX3_needLetterOrNone ({ frames := 6, cells := 1, slots := 6, locals := 120 }) (va_Pc [.int i0] (fun U => U.heap.size = sz ∧ va_P (dC, dI) vwCl [] U.heap ∧ va_K (dC, dI) vwCl [] U ∧ va_D (fun _ => True) [] ∧ gv ge5 gea gv5 gva gde gic gi0 (va_A [] sz) U U.heap)) (va_Qv (fun _ : Unit => False) (fun _ _ => True) (va_A [] sz)) (vx_X (fun _ : Unit => True) (fun (E : String) (_ : Unit) (t : State) => E = "java/lang/IllegalArgumentException" ∧ va_P (dC, dI) vwCl [] t.heap ∧ va_K (dC, dI) vwCl [] t ∧ va_D (va_A [] sz) []) (va_A [] sz)) 1 6 (va_A [] sz) := by
  refine vx_ofW (cc := cX3_needLetterOrNone) (maxL := 1) (ret := none) (by decide) rfl ?_
  intro p e s m args below meth c s₁ B hml ht9 hv
  obtain ⟨rfl, hsz, hP, hK, hD0, hG⟩ := hv
  have hx := B.exec
  have hb := B.bytes
  have hr := B.returns
  have hts := atoms_spec (ws := wsX3_needLetterOrNone) B.pre
  have hown : s.vm.findClass RX3 = some m.cls := findClass_of_methodNamed B.named
  have hlocks := B.notSynchronized
  subst hsz
  have hD := hD0.self (sz := s.heap.size)
  generalize hAe : va_A [] s.heap.size = A at hD hG ⊢
  obtain ⟨⟨g_AO_Text, g_AO_String, g_AO_Object, g_nm_RX1_20, g_nm_RX0_17, g_nm_RX3_31, g_nm_RX2_44, g_nm_RL_121, g_nf_RL_13, g_nf_RL_47, g_ca_IO, g_ca_IA, g_ca_IS, g_ca_IntObj, g_ca_StrObj, g_de_RT, g_de_EX, g_de_TH, g_nc_IA_IO, g_nc_IS_IO, g_nc_IS_IA⟩, ⟨g_s3, g_s5, g_sa, g_x278, g_x280, g_x282, g_x284, g_x286, g_x180, g_x238, g_x250⟩, ⟨g_o5, g_c5, g_v5, g_t5, g_oa, g_ca, g_va, g_ta, g_zc, g_zd, g_td, g_zf, g_zU, g_zN, g_zh, g_zk, g_tk, g_oi, g_vi⟩⟩ := id hG
  have hA : ∀ q : Nat, s.heap.size ≤ q → A q := fun q h => by rw [← hAe]; exact Or.inr h
  have hS : va_S A s.heap s.heap [] := va_S.rf
  have hP : va_P (dC, dI) vwCl [] s.heap := hP
  have hl := lv_entry ([.int i0]) (n := 1) (Nat.le_of_ble_eq_true rfl)
  rw [lg_entry_eq]
  generalize (lg_sl ([.int i0]) ++ List.replicate (1 - (lg_sl ([.int i0])).length) Slot.unset).toArray = ls at hl ⊢
  have hl : lv_has ls 1 [(0, .int i0)] := hl
  refine lv_iload_n hx hb dX3_needLetterOrNone_0 rfl (lv_at hl 0 rfl) ?_
  refine lv_iconst (v := (-1)) hx hb dX3_needLetterOrNone_1 (by decide) ?_
  refine lv_icmp_lt (tgt := 10) hx hb dX3_needLetterOrNone_2 (by decide) (fun c9 => absurd c9 (fun c8 => absurd (Int32.lt_iff_toInt_lt.mp c8) (by rw [show ((-1) : Int32).toInt = (-1) from by decide]; omega))) (fun _ => ?_)
  refine lv_iload_n hx hb dX3_needLetterOrNone_5 rfl (lv_at hl 0 rfl) ?_
  refine lv_iconst (v := 4) hx hb dX3_needLetterOrNone_6 (by decide) ?_
  refine lv_icmp_lt (tgt := 21) hx hb dX3_needLetterOrNone_7 (by decide) (fun c9 => absurd c9 (fun c8 => absurd (Int32.lt_iff_toInt_lt.mp c8) (by rw [show (4 : Int32).toInt = 4 from by decide]; omega))) (fun _ => ?_)
  obtain ⟨sa9, hsa9⟩ := g_x284
  have hin9 : ∀ w ∈ (vx_atS RX3 99 "java/lang/IllegalArgumentException" ["java/lang/RuntimeException", "java/lang/Exception"]).filter goodWord, w ∈ wsX3_needLetterOrNone := (by intro w hw; first | exact List.mem_cons_of_mem _ (List.mem_append_right _ hw) | exact List.mem_cons_of_mem _ (List.mem_append_left _ (List.mem_append_right _ hw)))
  exact vx_throwSW (cls := "java/lang/IllegalArgumentException") (text := "no such letter") (names := ["java/lang/RuntimeException", "java/lang/Exception"]) (ic := 99) hx hb hst hown (by decide) (by decide) (hts (.classLink RX3 95 "java/lang/IllegalArgumentException") (by decide +kernel)) (hts (.initialized "java/lang/IllegalArgumentException") (by decide +kernel)) hsa9 (vx_hat (B := [.declares (Bundle.initS "java/lang/RuntimeException"), .declares (Bundle.initS "java/lang/Exception"), .declares (Bundle.initS Bundle.tN), .castable "java/lang/IllegalArgumentException" "java/lang/IllegalArgumentException"]) (fun w hw => hts w (hin9 w hw)) (fun w hw => by rw [xbad_IA] at hw; exact hw) (vx_c (va_Nw.use rfl g_de_RT) (vx_c (va_Nw.use rfl g_de_EX) (vx_c (va_Nw.use rfl g_de_TH) (vx_c (va_Nw.use rfl g_ca_IA) vx_n))))) (by decide +kernel) g_zU g_zN hS (by rw [hml]; exact hl.1) dX3_needLetterOrNone_10 dX3_needLetterOrNone_13 dX3_needLetterOrNone_14 dX3_needLetterOrNone_17 dX3_needLetterOrNone_20 (fun x hx9 => (ht9 x hx9).elim) (Nat.le_of_ble_eq_true rfl) (Nat.le_of_ble_eq_true rfl) (Nat.le_of_ble_eq_true rfl) (Nat.le_of_ble_eq_true rfl) hlocks (fun t ha hz hk => ⟨(), trivial, ⟨rfl, hP.kept (fun k q hq => hk _ (vx_lt hP hq)), va_K.moved ha hK, hD⟩, Nat.le_trans hS.1 hz, fun q h1 h2 => (hk q (Nat.lt_of_lt_of_le h1 hS.1)).trans (hS.2.1 q h1 h2)⟩) hS.2.2 (Nat.le_refl _) (Nat.le_refl _)
set_option maxHeartbeats 4000000 in
set_option maxRecDepth 100000 in
theorem kx_X3_type_3 (l : Launch) (hst : l.stackTraces = false) (dC : Nat → ClassId) (dI : Nat → Nat → Nat) (ge5 gea gv5 gva gde gic gi0 : Nat) (h0 : Nat) (z0 : Nat) (z1 : Nat) (z2 : Nat) (z3 : Nat) (z4 : Nat) (z5 : Nat) (sz : Nat) (i0 : Int32) (i0_l : (0 : Int) ≤ i0.toInt) (i0_u : i0.toInt ≤ (3 : Int)) (i1 : Int32) (i1_l : (4 : Int) ≤ i1.toInt) (i1_u : i1.toInt ≤ (2147483647 : Int)) (i2 : Int32) (i2_l : ((-2147483648) : Int) ≤ i2.toInt) (i2_u : i2.toInt ≤ (2147483647 : Int)) (i3 : Int32) (i3_l : ((-2147483648) : Int) ≤ i3.toInt) (i3_u : i3.toInt ≤ (2147483647 : Int)) (i4 : Int32) (i4_l : ((-2147483648) : Int) ≤ i4.toInt) (i4_u : i4.toInt ≤ (2147483647 : Int)) (i5 : Int32) (i5_l : ((-2147483648) : Int) ≤ i5.toInt) (i5_u : i5.toInt ≤ (2147483647 : Int)) : vx_Met l yX3_type wsX3_type ({ frames := 7, cells := 1, slots := 6, locals := 140 }) (va_Pc [.ref h0, .int i0, .int i1, .int i2, .int i3, .int i4, .int i5] (fun U => U.heap.size = sz ∧ va_P (dC, dI) vwCl [(h0, .inr (7, [.ref z0, .ref z1, .ref z2, .ref z3, .ref z4, .ref z5, .int 0, .int 0, .int 0]))] U.heap ∧ va_K (dC, dI) vwCl [] U ∧ va_D (fun _ => True) [(h0, .inr (7, [.ref z0, .ref z1, .ref z2, .ref z3, .ref z4, .ref z5, .int 0, .int 0, .int 0]))] ∧ gv ge5 gea gv5 gva gde gic gi0 (va_A [(h0, .inr (7, [.ref z0, .ref z1, .ref z2, .ref z3, .ref z4, .ref z5, .int 0, .int 0, .int 0]))] sz) U U.heap)) (va_Qi (fun (_ : Int32) (_ : Unit) => False) (fun _ _ => True) (va_A [(h0, .inr (7, [.ref z0, .ref z1, .ref z2, .ref z3, .ref z4, .ref z5, .int 0, .int 0, .int 0]))] sz)) (vx_X (fun _ : Unit => True) (fun (E : String) (_ : Unit) (t : State) => E = "java/lang/IllegalArgumentException" ∧ va_P (dC, dI) vwCl [(h0, .inr (7, [.ref z0, .ref z1, .ref z2, .ref z3, .ref z4, .ref z5, .int 0, .int 0, .int 0]))] t.heap ∧ va_K (dC, dI) vwCl [] t ∧ va_D (va_A [(h0, .inr (7, [.ref z0, .ref z1, .ref z2, .ref z3, .ref z4, .ref z5, .int 0, .int 0, .int 0]))] sz) [(h0, .inr (7, [.ref z0, .ref z1, .ref z2, .ref z3, .ref z4, .ref z5, .int 0, .int 0, .int 0]))]) (va_A [(h0, .inr (7, [.ref z0, .ref z1, .ref z2, .ref z3, .ref z4, .ref z5, .int 0, .int 0, .int 0]))] sz)) 1 6 (va_A [(h0, .inr (7, [.ref z0, .ref z1, .ref z2, .ref z3, .ref z4, .ref z5, .int 0, .int 0, .int 0]))] sz) := by
  refine vx_ofW (cc := cX3_type) (maxL := 8) (ret := (some .int)) (by decide) rfl ?_
  intro p e s m args below meth c s₁ B hml ht9 hv
  obtain ⟨rfl, hsz, hP, hK, hD0, hG⟩ := hv
  have hx := B.exec
  have hb := B.bytes
  have hr := B.returns
  have hts := atoms_spec (ws := wsX3_type) B.pre
  have hown : s.vm.findClass RX3 = some m.cls := findClass_of_methodNamed B.named
  have hlocks := B.notSynchronized
  subst hsz
  have hD := hD0.self (sz := s.heap.size)
  generalize hAe : va_A [(h0, .inr (7, [.ref z0, .ref z1, .ref z2, .ref z3, .ref z4, .ref z5, .int 0, .int 0, .int 0]))] s.heap.size = A at hD hG ⊢
  obtain ⟨⟨g_AO_Text, g_AO_String, g_AO_Object, g_nm_RX1_20, g_nm_RX0_17, g_nm_RX3_31, g_nm_RX2_44, g_nm_RL_121, g_nf_RL_13, g_nf_RL_47, g_ca_IO, g_ca_IA, g_ca_IS, g_ca_IntObj, g_ca_StrObj, g_de_RT, g_de_EX, g_de_TH, g_nc_IA_IO, g_nc_IS_IO, g_nc_IS_IA⟩, ⟨g_s3, g_s5, g_sa, g_x278, g_x280, g_x282, g_x284, g_x286, g_x180, g_x238, g_x250⟩, ⟨g_o5, g_c5, g_v5, g_t5, g_oa, g_ca, g_va, g_ta, g_zc, g_zd, g_td, g_zf, g_zU, g_zN, g_zh, g_zk, g_tk, g_oi, g_vi⟩⟩ := id hG
  have hA : ∀ q : Nat, s.heap.size ≤ q → A q := fun q h => by rw [← hAe]; exact Or.inr h
  have hS : va_S A s.heap s.heap [] := va_S.rf
  have hP : va_P (dC, dI) vwCl [(h0, .inr (7, [.ref z0, .ref z1, .ref z2, .ref z3, .ref z4, .ref z5, .int 0, .int 0, .int 0]))] s.heap := hP
  have hl := lv_entry ([.ref h0, .int i0, .int i1, .int i2, .int i3, .int i4, .int i5]) (n := 8) (Nat.le_of_ble_eq_true rfl)
  rw [lg_entry_eq]
  generalize (lg_sl ([.ref h0, .int i0, .int i1, .int i2, .int i3, .int i4, .int i5]) ++ List.replicate (8 - (lg_sl ([.ref h0, .int i0, .int i1, .int i2, .int i3, .int i4, .int i5])).length) Slot.unset).toArray = ls at hl ⊢
  have hl : lv_has ls 8 [(0, .ref h0), (1, .int i0), (2, .int i1), (3, .int i2), (4, .int i3), (5, .int i4), (6, .int i5)] := hl
  refine lv_iload_n hx hb dX3_type_0 rfl (lv_at hl 1 rfl) ?_
  have hPc := hP.sub (ws' := []) [] rfl
  have hDc := hD.sub (ws' := []) [] (by decide) rfl
  have hKc := hK.sub (tys' := []) [] rfl
  have hFc := va_free (wc := []) hD hS hA [] rfl
  refine va_callv (va_runS (As := [.int i0]) (rest := []) ⟨hx, hb, hml, hown, hts⟩ (kx_X3_needRope_4 l dC dI s.heap.size i0 i0_l i0_u) (cwS 1 hts gX3_type_X3_needRope rfl rfl rfl (by decide +kernel) ⟨Nat.le_of_ble_eq_true rfl, Nat.le_of_ble_eq_true rfl⟩) ⟨fun a U g mk q => by obtain ⟨q0, q1, qP, qK, qD⟩ := q; exact ⟨q0, q1, qP, va_K.moved (u := U) (U := U.calling g mk a) (Vm.Alike.refl U.vm) qK, qD⟩, fun U hU hW => ⟨rfl, by rw [hU], by rw [hU]; exact hPc, va_K.moved hW.alike hKc, hDc.weaken (fun _ _ _ _ => trivial)⟩⟩ rfl rfl hl.1 rfl (lv_room (Nat.le_of_ble_eq_true rfl)) dX3_type_1 ⟨Nat.le_of_ble_eq_true rfl, Nat.le_of_ble_eq_true rfl⟩) hS (fun q _ h => hFc q h) hFc (fun u t H1 locs ht hvm hw hB hz1 hk1 hS => ?_)
  obtain ⟨hP1, hK1, hD1⟩ := hB
  rw [ht] at hP1
  have hK1 := va_K.moved hvm.symm hK1
  obtain ⟨hP, hD⟩ := va_join (wr := [(h0, .inr (7, [.ref z0, .ref z1, .ref z2, .ref z3, .ref z4, .ref z5, .int 0, .int 0, .int 0]))]) (w1 := []) hP hD [] [0] rfl rfl (by decide) (by decide) hk1 hFc hP1 hD1
  generalize H1 = H at hP hS ⊢
  have hP : va_P (dC, dI) vwCl [(h0, .inr (7, [.ref z0, .ref z1, .ref z2, .ref z3, .ref z4, .ref z5, .int 0, .int 0, .int 0]))] H := hP
  have hD : va_D A [(h0, .inr (7, [.ref z0, .ref z1, .ref z2, .ref z3, .ref z4, .ref z5, .int 0, .int 0, .int 0]))] := hD
  refine lv_iload_n hx hb dX3_type_4 rfl (lv_at hl 2 rfl) ?_
  have hPc := hP.sub (ws' := []) [] rfl
  have hDc := hD.sub (ws' := []) [] (by decide) rfl
  have hKc := hK.sub (tys' := []) [] rfl
  have hFc := va_free (wc := []) hD hS hA [] rfl
  refine vx_callv (vx_runS (As := [.int i1]) (rest := []) ⟨hx, hb, hml, hown, hts⟩ (kx_X3_needLetterOrNone_3 l hst dC dI ge5 gea gv5 gva gde gic gi0 H.size i1 i1_l i1_u) (cwS 1 hts gX3_type_X3_needLetterOrNone rfl rfl rfl (by decide +kernel) ⟨Nat.le_of_ble_eq_true rfl, Nat.le_of_ble_eq_true rfl⟩) ⟨fun a U g mk q => by obtain ⟨q0, q1, qP, qK, qD, qG⟩ := q; exact ⟨q0, q1, qP, va_K.moved (u := U) (U := U.calling g mk a) (Vm.Alike.refl U.vm) qK, qD, gv.fb qG⟩, fun U hU hW => ⟨rfl, by rw [hU], by rw [hU]; exact hPc, va_K.moved hW.alike hKc, hDc.weaken (fun _ _ _ _ => trivial), gv.pass hW hU hS hFc hG⟩⟩ rfl rfl hl.1 rfl (lv_room (Nat.le_of_ble_eq_true rfl)) dX3_type_5 ⟨Nat.le_of_ble_eq_true rfl, Nat.le_of_ble_eq_true rfl⟩) hS (fun q _ h => hFc q h) hFc (fun q _ h => hFc q h) (fun E ce q9 u t H1 locs ht hvm hpx hB hz1 hk1 hS hce hcv hcl => ?_) (fun u t H1 locs ht hvm hw hB hz1 hk1 hS => hw.elim)
  obtain ⟨rfl, hP1, hK1, hD1⟩ := hB
  rw [ht] at hP1
  have hK1 := va_K.moved hvm.symm hK1
  obtain ⟨hP, hD⟩ := va_join (wr := [(h0, .inr (7, [.ref z0, .ref z1, .ref z2, .ref z3, .ref z4, .ref z5, .int 0, .int 0, .int 0]))]) (w1 := []) hP hD [] [0] rfl rfl (by decide) (by decide) hk1 hFc hP1 hD1
  generalize H1 = H at hP hS hce ⊢
  have hP : va_P (dC, dI) vwCl [(h0, .inr (7, [.ref z0, .ref z1, .ref z2, .ref z3, .ref z4, .ref z5, .int 0, .int 0, .int 0]))] H := hP
  have hD : va_D A [(h0, .inr (7, [.ref z0, .ref z1, .ref z2, .ref z3, .ref z4, .ref z5, .int 0, .int 0, .int 0]))] := hD
  exact vx_out (fun x hx9 => (ht9 x hx9).elim) hlocks hce hcv hcl (fun t ht hW => ⟨(), trivial, ⟨rfl, by rw [ht]; exact hP, va_K.moved hW hK, hD⟩, hS.F ht⟩) hS.2.2 (by omega) (by omega)
set_option maxHeartbeats 4000000 in
set_option maxRecDepth 100000 in
theorem kx_L_type_3 (l : Launch) (hst : l.stackTraces = false) (dC : Nat → ClassId) (dI : Nat → Nat → Nat) (ge5 gea gv5 gva gde gic gi0 : Nat) (h0 : Nat) (z0 : Nat) (z1 : Nat) (z2 : Nat) (z3 : Nat) (z4 : Nat) (z5 : Nat) (z6 : Nat) (sz : Nat) (i0 : Int32) (i0_l : (0 : Int) ≤ i0.toInt) (i0_u : i0.toInt ≤ (3 : Int)) (i1 : Int32) (i1_l : (4 : Int) ≤ i1.toInt) (i1_u : i1.toInt ≤ (2147483647 : Int)) (i2 : Int32) (i2_l : ((-2147483648) : Int) ≤ i2.toInt) (i2_u : i2.toInt ≤ (2147483647 : Int)) (i3 : Int32) (i3_l : ((-2147483648) : Int) ≤ i3.toInt) (i3_u : i3.toInt ≤ (2147483647 : Int)) (i4 : Int32) (i4_l : ((-2147483648) : Int) ≤ i4.toInt) (i4_u : i4.toInt ≤ (2147483647 : Int)) (i5 : Int32) (i5_l : ((-2147483648) : Int) ≤ i5.toInt) (i5_u : i5.toInt ≤ (2147483647 : Int)) : Met l yL_type wsL_type ({ frames := 8, cells := 1, slots := 6, locals := 167 }) (va_Pc [.ref h0, .int i0, .int i1, .int i2, .int i3, .int i4, .int i5, .ref z0] (fun U => U.heap.size = sz ∧ va_P (dC, dI) vwCl [(h0, .inr (7, [.ref z1, .ref z2, .ref z3, .ref z4, .ref z5, .ref z6, .int 0, .int 0, .int 0]))] U.heap ∧ va_K (dC, dI) vwCl [] U ∧ va_D (fun _ => True) [(h0, .inr (7, [.ref z1, .ref z2, .ref z3, .ref z4, .ref z5, .ref z6, .int 0, .int 0, .int 0]))] ∧ gv ge5 gea gv5 gva gde gic gi0 (va_A [(h0, .inr (7, [.ref z1, .ref z2, .ref z3, .ref z4, .ref z5, .ref z6, .int 0, .int 0, .int 0]))] sz) U U.heap)) (va_Qi (fun (r : Int32) (_ : Unit) => r = 2) (fun (_ : Unit) (t : State) => va_P (dC, dI) vwCl [(h0, .inr (7, [.ref z1, .ref z2, .ref z3, .ref z4, .ref z5, .ref z6, .int 0, .int 0, .int 0]))] t.heap ∧ va_K (dC, dI) vwCl [] t ∧ va_D (va_A [(h0, .inr (7, [.ref z1, .ref z2, .ref z3, .ref z4, .ref z5, .ref z6, .int 0, .int 0, .int 0]))] sz) [(h0, .inr (7, [.ref z1, .ref z2, .ref z3, .ref z4, .ref z5, .ref z6, .int 0, .int 0, .int 0]))]) (va_A [(h0, .inr (7, [.ref z1, .ref z2, .ref z3, .ref z4, .ref z5, .ref z6, .int 0, .int 0, .int 0]))] sz)) 1 6 (va_A [(h0, .inr (7, [.ref z1, .ref z2, .ref z3, .ref z4, .ref z5, .ref z6, .int 0, .int 0, .int 0]))] sz) := by
  refine kz_ofWH (cc := cL_type) (maxL := 9) (ret := (some .int)) (hh := [(0, 19, 22, 19), (0, 19, 26, 21), (0, 19, 30, 23)]) (by decide) rfl ?_
  intro p e s m args below meth c s₁ B hml hv
  obtain ⟨rfl, hsz, hP, hK, hD0, hG⟩ := hv
  have hx := B.exec
  have hb := B.bytes
  have hr := B.returns
  have hts := atoms_spec (ws := wsL_type) B.pre
  have hown : s.vm.findClass RL = some m.cls := findClass_of_methodNamed B.named
  have htab := vx_table (x := yL_type) B (hts (.codeWith yL_type cL_type 9 (some .int) [(0, 19, 22, 19), (0, 19, 26, 21), (0, 19, 30, 23)]) (by decide +kernel))
  have hlocks := B.notSynchronized
  subst hsz
  have hD := hD0.self (sz := s.heap.size)
  generalize hAe : va_A [(h0, .inr (7, [.ref z1, .ref z2, .ref z3, .ref z4, .ref z5, .ref z6, .int 0, .int 0, .int 0]))] s.heap.size = A at hD hG ⊢
  obtain ⟨⟨g_AO_Text, g_AO_String, g_AO_Object, g_nm_RX1_20, g_nm_RX0_17, g_nm_RX3_31, g_nm_RX2_44, g_nm_RL_121, g_nf_RL_13, g_nf_RL_47, g_ca_IO, g_ca_IA, g_ca_IS, g_ca_IntObj, g_ca_StrObj, g_de_RT, g_de_EX, g_de_TH, g_nc_IA_IO, g_nc_IS_IO, g_nc_IS_IA⟩, ⟨g_s3, g_s5, g_sa, g_x278, g_x280, g_x282, g_x284, g_x286, g_x180, g_x238, g_x250⟩, ⟨g_o5, g_c5, g_v5, g_t5, g_oa, g_ca, g_va, g_ta, g_zc, g_zd, g_td, g_zf, g_zU, g_zN, g_zh, g_zk, g_tk, g_oi, g_vi⟩⟩ := id hG
  have hA : ∀ q : Nat, s.heap.size ≤ q → A q := fun q h => by rw [← hAe]; exact Or.inr h
  have hS : va_S A s.heap s.heap [] := va_S.rf
  have hP : va_P (dC, dI) vwCl [(h0, .inr (7, [.ref z1, .ref z2, .ref z3, .ref z4, .ref z5, .ref z6, .int 0, .int 0, .int 0]))] s.heap := hP
  have hl := lv_entry ([.ref h0, .int i0, .int i1, .int i2, .int i3, .int i4, .int i5, .ref z0]) (n := 9) (Nat.le_of_ble_eq_true rfl)
  rw [lg_entry_eq]
  generalize (lg_sl ([.ref h0, .int i0, .int i1, .int i2, .int i3, .int i4, .int i5, .ref z0]) ++ List.replicate (9 - (lg_sl ([.ref h0, .int i0, .int i1, .int i2, .int i3, .int i4, .int i5, .ref z0])).length) Slot.unset).toArray = ls at hl ⊢
  have hl : lv_has ls 9 [(0, .ref h0), (1, .int i0), (2, .int i1), (3, .int i2), (4, .int i3), (5, .int i4), (6, .int i5), (7, .ref z0)] := hl
  refine lv_aload hx hb dL_type_0 (lv_at hl 7 rfl) ?_
  refine lv_aload_n hx hb dL_type_2 rfl (lv_at hl 0 rfl) ?_
  refine lv_iload_n hx hb dL_type_3 rfl (lv_at hl 1 rfl) ?_
  refine lv_iload_n hx hb dL_type_4 rfl (lv_at hl 2 rfl) ?_
  refine lv_iload_n hx hb dL_type_5 rfl (lv_at hl 3 rfl) ?_
  refine lv_iload hx hb dL_type_6 (lv_at hl 4 rfl) ?_
  refine lv_iload hx hb dL_type_8 (lv_at hl 5 rfl) ?_
  refine lv_iload hx hb dL_type_10 (lv_at hl 6 rfl) ?_
  have hPc := hP.sub (ws' := [(h0, .inr (7, [.ref z1, .ref z2, .ref z3, .ref z4, .ref z5, .ref z6, .int 0, .int 0, .int 0]))]) [0] rfl
  have hDc := hD.sub (ws' := [(h0, .inr (7, [.ref z1, .ref z2, .ref z3, .ref z4, .ref z5, .ref z6, .int 0, .int 0, .int 0]))]) [0] (by decide) rfl
  have hKc := hK.sub (tys' := []) [] rfl
  have hFc := va_free (wc := [(h0, .inr (7, [.ref z1, .ref z2, .ref z3, .ref z4, .ref z5, .ref z6, .int 0, .int 0, .int 0]))]) hD hS hA [0] rfl
  refine vx_calli (vx_runV (As := [.int i0, .int i1, .int i2, .int i3, .int i4, .int i5]) (rest := [.ref z0]) ⟨hx, hb, hml, hown, hts⟩ (kx_X3_type_3 l hst dC dI ge5 gea gv5 gva gde gic gi0 h0 z1 z2 z3 z4 z5 z6 s.heap.size i0 i0_l i0_u i1 i1_l i1_u i2 i2_l i2_u i3 i3_l i3_u i4 i4_l i4_u i5 i5_l i5_u) (cwV 6 hts gL_type_X3_type rfl rfl rfl (by decide +kernel) ⟨Nat.le_of_ble_eq_true rfl, Nat.le_of_ble_eq_true rfl⟩) ⟨fun a U g mk q => by obtain ⟨q0, q1, qP, qK, qD, qG⟩ := q; exact ⟨q0, q1, qP, va_K.moved (u := U) (U := U.calling g mk a) (Vm.Alike.refl U.vm) qK, qD, gv.fb qG⟩, va_recv hKc hPc (ci := 7) (q0 := 0) rfl rfl, fun U hU hW => ⟨rfl, by rw [hU], by rw [hU]; exact hPc, va_K.moved hW.alike hKc, hDc.weaken (fun _ _ _ _ => trivial), gv.pass hW hU hS hFc hG⟩⟩ rfl rfl hl.1 rfl (lv_room (Nat.le_of_ble_eq_true rfl)) dL_type_12 ⟨Nat.le_of_ble_eq_true rfl, Nat.le_of_ble_eq_true rfl⟩) hS (fun q _ h => hFc q h) hFc (fun q _ h => hFc q h) (fun E ce q9 u t H1 locs ht hvm hpx hB hz1 hk1 hS hce hcv hcl => ?_) (fun r9 u t H1 locs ht hvm hw hB hz1 hk1 hS => hw.elim)
  obtain ⟨rfl, hP1, hK1, hD1⟩ := hB
  rw [ht] at hP1
  have hK1 := va_K.moved hvm.symm hK1
  obtain ⟨hP, hD⟩ := va_join (wr := []) (w1 := [(h0, .inr (7, [.ref z1, .ref z2, .ref z3, .ref z4, .ref z5, .ref z6, .int 0, .int 0, .int 0]))]) hP hD [0] [] rfl rfl (by decide) (by decide) hk1 hFc hP1 hD1
  generalize H1 = H at hP hS hce ⊢
  have hP : va_P (dC, dI) vwCl [(h0, .inr (7, [.ref z1, .ref z2, .ref z3, .ref z4, .ref z5, .ref z6, .int 0, .int 0, .int 0]))] H := hP
  have hD : va_D A [(h0, .inr (7, [.ref z1, .ref z2, .ref z3, .ref z4, .ref z5, .ref z6, .int 0, .int 0, .int 0]))] := hD
  refine vx_catch (own := RL) (name := "java/lang/IllegalArgumentException") hown (tableOf [(0, 19, 22, 19)]) ⟨0, 19, 26, 21⟩ (tableOf [(0, 19, 30, 23)]) (by rw [htab]; rfl) (fun z hz => by
      simp only [tableOf, List.map_cons, List.map_nil, List.mem_cons, List.not_mem_nil, or_false] at hz
      rcases hz with rfl
      · exact Or.inr ⟨by decide, "java/lang/IndexOutOfBoundsException", hts (.classLink RL 19 "java/lang/IndexOutOfBoundsException") (by decide +kernel), g_nc_IA_IO⟩) (by decide +kernel) (by decide) (hts (.classLink RL 21 "java/lang/IllegalArgumentException") (by decide +kernel)) (va_Nw.use rfl g_ca_IA) hce hcv hcl ?_
  refine W.eq (g2 := F0 m 26 ls [.ref q9]) rfl ?_
  refine lv_astore (lv' := [(8, .ref q9), (0, .ref h0), (1, .int i0), (2, .int i1), (3, .int i2), (4, .int i3), (5, .int i4), (6, .int i5), (7, .ref z0)]) hx hb dL_type_26 hl (by decide) rfl (fun ls hl => ?_)
  refine lv_iconst (v := 2) hx hb dL_type_28 (by decide) ?_
  exact W.iret (v := 2) hx hb hr (fun t ht hW => ⟨⟨2, (), rfl, rfl, by rw [ht]; exact hP, va_K.moved hW.alike hK, hD⟩, hS.F ht⟩) hS.2.2 dL_type_29
set_option maxHeartbeats 4000000 in
set_option maxRecDepth 100000 in
theorem kx_X3_type_4 (l : Launch) (hst : l.stackTraces = false) (dC : Nat → ClassId) (dI : Nat → Nat → Nat) (ge5 gea gv5 gva gde gic gi0 : Nat) (h0 : Nat) (z0 : Nat) (z1 : Nat) (z2 : Nat) (z3 : Nat) (z4 : Nat) (z5 : Nat) (sz : Nat) (i0 : Int32) (i0_l : (0 : Int) ≤ i0.toInt) (i0_u : i0.toInt ≤ (3 : Int)) (i1 : Int32) (i1_l : ((-1) : Int) ≤ i1.toInt) (i1_u : i1.toInt ≤ (3 : Int)) (i2 : Int32) (i2_l : ((-2147483648) : Int) ≤ i2.toInt) (i2_u : i2.toInt ≤ ((-2) : Int)) (i3 : Int32) (i3_l : ((-2147483648) : Int) ≤ i3.toInt) (i3_u : i3.toInt ≤ (2147483647 : Int)) (i4 : Int32) (i4_l : ((-2147483648) : Int) ≤ i4.toInt) (i4_u : i4.toInt ≤ (2147483647 : Int)) (i5 : Int32) (i5_l : ((-2147483648) : Int) ≤ i5.toInt) (i5_u : i5.toInt ≤ (2147483647 : Int)) : vx_Met l yX3_type wsX3_type ({ frames := 7, cells := 1, slots := 6, locals := 140 }) (va_Pc [.ref h0, .int i0, .int i1, .int i2, .int i3, .int i4, .int i5] (fun U => U.heap.size = sz ∧ va_P (dC, dI) vwCl [(h0, .inr (7, [.ref z0, .ref z1, .ref z2, .ref z3, .ref z4, .ref z5, .int 0, .int 0, .int 0]))] U.heap ∧ va_K (dC, dI) vwCl [] U ∧ va_D (fun _ => True) [(h0, .inr (7, [.ref z0, .ref z1, .ref z2, .ref z3, .ref z4, .ref z5, .int 0, .int 0, .int 0]))] ∧ gv ge5 gea gv5 gva gde gic gi0 (va_A [(h0, .inr (7, [.ref z0, .ref z1, .ref z2, .ref z3, .ref z4, .ref z5, .int 0, .int 0, .int 0]))] sz) U U.heap)) (va_Qi (fun (_ : Int32) (_ : Unit) => False) (fun _ _ => True) (va_A [(h0, .inr (7, [.ref z0, .ref z1, .ref z2, .ref z3, .ref z4, .ref z5, .int 0, .int 0, .int 0]))] sz)) (vx_X (fun _ : Unit => True) (fun (E : String) (_ : Unit) (t : State) => E = "java/lang/IllegalArgumentException" ∧ va_P (dC, dI) vwCl [(h0, .inr (7, [.ref z0, .ref z1, .ref z2, .ref z3, .ref z4, .ref z5, .int 0, .int 0, .int 0]))] t.heap ∧ va_K (dC, dI) vwCl [] t ∧ va_D (va_A [(h0, .inr (7, [.ref z0, .ref z1, .ref z2, .ref z3, .ref z4, .ref z5, .int 0, .int 0, .int 0]))] sz) [(h0, .inr (7, [.ref z0, .ref z1, .ref z2, .ref z3, .ref z4, .ref z5, .int 0, .int 0, .int 0]))]) (va_A [(h0, .inr (7, [.ref z0, .ref z1, .ref z2, .ref z3, .ref z4, .ref z5, .int 0, .int 0, .int 0]))] sz)) 1 6 (va_A [(h0, .inr (7, [.ref z0, .ref z1, .ref z2, .ref z3, .ref z4, .ref z5, .int 0, .int 0, .int 0]))] sz) := by
  refine vx_ofW (cc := cX3_type) (maxL := 8) (ret := (some .int)) (by decide) rfl ?_
  intro p e s m args below meth c s₁ B hml ht9 hv
  obtain ⟨rfl, hsz, hP, hK, hD0, hG⟩ := hv
  have hx := B.exec
  have hb := B.bytes
  have hr := B.returns
  have hts := atoms_spec (ws := wsX3_type) B.pre
  have hown : s.vm.findClass RX3 = some m.cls := findClass_of_methodNamed B.named
  have hlocks := B.notSynchronized
  subst hsz
  have hD := hD0.self (sz := s.heap.size)
  generalize hAe : va_A [(h0, .inr (7, [.ref z0, .ref z1, .ref z2, .ref z3, .ref z4, .ref z5, .int 0, .int 0, .int 0]))] s.heap.size = A at hD hG ⊢
  obtain ⟨⟨g_AO_Text, g_AO_String, g_AO_Object, g_nm_RX1_20, g_nm_RX0_17, g_nm_RX3_31, g_nm_RX2_44, g_nm_RL_121, g_nf_RL_13, g_nf_RL_47, g_ca_IO, g_ca_IA, g_ca_IS, g_ca_IntObj, g_ca_StrObj, g_de_RT, g_de_EX, g_de_TH, g_nc_IA_IO, g_nc_IS_IO, g_nc_IS_IA⟩, ⟨g_s3, g_s5, g_sa, g_x278, g_x280, g_x282, g_x284, g_x286, g_x180, g_x238, g_x250⟩, ⟨g_o5, g_c5, g_v5, g_t5, g_oa, g_ca, g_va, g_ta, g_zc, g_zd, g_td, g_zf, g_zU, g_zN, g_zh, g_zk, g_tk, g_oi, g_vi⟩⟩ := id hG
  have hA : ∀ q : Nat, s.heap.size ≤ q → A q := fun q h => by rw [← hAe]; exact Or.inr h
  have hS : va_S A s.heap s.heap [] := va_S.rf
  have hP : va_P (dC, dI) vwCl [(h0, .inr (7, [.ref z0, .ref z1, .ref z2, .ref z3, .ref z4, .ref z5, .int 0, .int 0, .int 0]))] s.heap := hP
  have hl := lv_entry ([.ref h0, .int i0, .int i1, .int i2, .int i3, .int i4, .int i5]) (n := 8) (Nat.le_of_ble_eq_true rfl)
  rw [lg_entry_eq]
  generalize (lg_sl ([.ref h0, .int i0, .int i1, .int i2, .int i3, .int i4, .int i5]) ++ List.replicate (8 - (lg_sl ([.ref h0, .int i0, .int i1, .int i2, .int i3, .int i4, .int i5])).length) Slot.unset).toArray = ls at hl ⊢
  have hl : lv_has ls 8 [(0, .ref h0), (1, .int i0), (2, .int i1), (3, .int i2), (4, .int i3), (5, .int i4), (6, .int i5)] := hl
  refine lv_iload_n hx hb dX3_type_0 rfl (lv_at hl 1 rfl) ?_
  have hPc := hP.sub (ws' := []) [] rfl
  have hDc := hD.sub (ws' := []) [] (by decide) rfl
  have hKc := hK.sub (tys' := []) [] rfl
  have hFc := va_free (wc := []) hD hS hA [] rfl
  refine va_callv (va_runS (As := [.int i0]) (rest := []) ⟨hx, hb, hml, hown, hts⟩ (kx_X3_needRope_4 l dC dI s.heap.size i0 i0_l i0_u) (cwS 1 hts gX3_type_X3_needRope rfl rfl rfl (by decide +kernel) ⟨Nat.le_of_ble_eq_true rfl, Nat.le_of_ble_eq_true rfl⟩) ⟨fun a U g mk q => by obtain ⟨q0, q1, qP, qK, qD⟩ := q; exact ⟨q0, q1, qP, va_K.moved (u := U) (U := U.calling g mk a) (Vm.Alike.refl U.vm) qK, qD⟩, fun U hU hW => ⟨rfl, by rw [hU], by rw [hU]; exact hPc, va_K.moved hW.alike hKc, hDc.weaken (fun _ _ _ _ => trivial)⟩⟩ rfl rfl hl.1 rfl (lv_room (Nat.le_of_ble_eq_true rfl)) dX3_type_1 ⟨Nat.le_of_ble_eq_true rfl, Nat.le_of_ble_eq_true rfl⟩) hS (fun q _ h => hFc q h) hFc (fun u t H1 locs ht hvm hw hB hz1 hk1 hS => ?_)
  obtain ⟨hP1, hK1, hD1⟩ := hB
  rw [ht] at hP1
  have hK1 := va_K.moved hvm.symm hK1
  obtain ⟨hP, hD⟩ := va_join (wr := [(h0, .inr (7, [.ref z0, .ref z1, .ref z2, .ref z3, .ref z4, .ref z5, .int 0, .int 0, .int 0]))]) (w1 := []) hP hD [] [0] rfl rfl (by decide) (by decide) hk1 hFc hP1 hD1
  generalize H1 = H at hP hS ⊢
  have hP : va_P (dC, dI) vwCl [(h0, .inr (7, [.ref z0, .ref z1, .ref z2, .ref z3, .ref z4, .ref z5, .int 0, .int 0, .int 0]))] H := hP
  have hD : va_D A [(h0, .inr (7, [.ref z0, .ref z1, .ref z2, .ref z3, .ref z4, .ref z5, .int 0, .int 0, .int 0]))] := hD
  refine lv_iload_n hx hb dX3_type_4 rfl (lv_at hl 2 rfl) ?_
  have hPc := hP.sub (ws' := []) [] rfl
  have hDc := hD.sub (ws' := []) [] (by decide) rfl
  have hKc := hK.sub (tys' := []) [] rfl
  have hFc := va_free (wc := []) hD hS hA [] rfl
  refine va_callv (va_runS (As := [.int i1]) (rest := []) ⟨hx, hb, hml, hown, hts⟩ (kx_X3_needLetterOrNone_1 l dC dI H.size i1 i1_l i1_u) (cwS 1 hts gX3_type_X3_needLetterOrNone rfl rfl rfl (by decide +kernel) ⟨Nat.le_of_ble_eq_true rfl, Nat.le_of_ble_eq_true rfl⟩) ⟨fun a U g mk q => by obtain ⟨q0, q1, qP, qK, qD⟩ := q; exact ⟨q0, q1, qP, va_K.moved (u := U) (U := U.calling g mk a) (Vm.Alike.refl U.vm) qK, qD⟩, fun U hU hW => ⟨rfl, by rw [hU], by rw [hU]; exact hPc, va_K.moved hW.alike hKc, hDc.weaken (fun _ _ _ _ => trivial)⟩⟩ rfl rfl hl.1 rfl (lv_room (Nat.le_of_ble_eq_true rfl)) dX3_type_5 ⟨Nat.le_of_ble_eq_true rfl, Nat.le_of_ble_eq_true rfl⟩) hS (fun q _ h => hFc q h) hFc (fun u t H1 locs ht hvm hw hB hz1 hk1 hS => ?_)
  obtain ⟨hP1, hK1, hD1⟩ := hB
  rw [ht] at hP1
  have hK1 := va_K.moved hvm.symm hK1
  obtain ⟨hP, hD⟩ := va_join (wr := [(h0, .inr (7, [.ref z0, .ref z1, .ref z2, .ref z3, .ref z4, .ref z5, .int 0, .int 0, .int 0]))]) (w1 := []) hP hD [] [0] rfl rfl (by decide) (by decide) hk1 hFc hP1 hD1
  generalize H1 = H at hP hS ⊢
  have hP : va_P (dC, dI) vwCl [(h0, .inr (7, [.ref z0, .ref z1, .ref z2, .ref z3, .ref z4, .ref z5, .int 0, .int 0, .int 0]))] H := hP
  have hD : va_D A [(h0, .inr (7, [.ref z0, .ref z1, .ref z2, .ref z3, .ref z4, .ref z5, .int 0, .int 0, .int 0]))] := hD
  refine lv_iload_n hx hb dX3_type_8 rfl (lv_at hl 3 rfl) ?_
  have hPc := hP.sub (ws' := []) [] rfl
  have hDc := hD.sub (ws' := []) [] (by decide) rfl
  have hKc := hK.sub (tys' := []) [] rfl
  have hFc := va_free (wc := []) hD hS hA [] rfl
  refine vx_callv (vx_runS (As := [.int i2]) (rest := []) ⟨hx, hb, hml, hown, hts⟩ (kx_X3_needLetterOrNone_2 l hst dC dI ge5 gea gv5 gva gde gic gi0 H.size i2 i2_l i2_u) (cwS 1 hts gX3_type_X3_needLetterOrNone rfl rfl rfl (by decide +kernel) ⟨Nat.le_of_ble_eq_true rfl, Nat.le_of_ble_eq_true rfl⟩) ⟨fun a U g mk q => by obtain ⟨q0, q1, qP, qK, qD, qG⟩ := q; exact ⟨q0, q1, qP, va_K.moved (u := U) (U := U.calling g mk a) (Vm.Alike.refl U.vm) qK, qD, gv.fb qG⟩, fun U hU hW => ⟨rfl, by rw [hU], by rw [hU]; exact hPc, va_K.moved hW.alike hKc, hDc.weaken (fun _ _ _ _ => trivial), gv.pass hW hU hS hFc hG⟩⟩ rfl rfl hl.1 rfl (lv_room (Nat.le_of_ble_eq_true rfl)) dX3_type_9 ⟨Nat.le_of_ble_eq_true rfl, Nat.le_of_ble_eq_true rfl⟩) hS (fun q _ h => hFc q h) hFc (fun q _ h => hFc q h) (fun E ce q9 u t H1 locs ht hvm hpx hB hz1 hk1 hS hce hcv hcl => ?_) (fun u t H1 locs ht hvm hw hB hz1 hk1 hS => hw.elim)
  obtain ⟨rfl, hP1, hK1, hD1⟩ := hB
  rw [ht] at hP1
  have hK1 := va_K.moved hvm.symm hK1
  obtain ⟨hP, hD⟩ := va_join (wr := [(h0, .inr (7, [.ref z0, .ref z1, .ref z2, .ref z3, .ref z4, .ref z5, .int 0, .int 0, .int 0]))]) (w1 := []) hP hD [] [0] rfl rfl (by decide) (by decide) hk1 hFc hP1 hD1
  generalize H1 = H at hP hS hce ⊢
  have hP : va_P (dC, dI) vwCl [(h0, .inr (7, [.ref z0, .ref z1, .ref z2, .ref z3, .ref z4, .ref z5, .int 0, .int 0, .int 0]))] H := hP
  have hD : va_D A [(h0, .inr (7, [.ref z0, .ref z1, .ref z2, .ref z3, .ref z4, .ref z5, .int 0, .int 0, .int 0]))] := hD
  exact vx_out (fun x hx9 => (ht9 x hx9).elim) hlocks hce hcv hcl (fun t ht hW => ⟨(), trivial, ⟨rfl, by rw [ht]; exact hP, va_K.moved hW hK, hD⟩, hS.F ht⟩) hS.2.2 (by omega) (by omega)
set_option maxHeartbeats 4000000 in
set_option maxRecDepth 100000 in
theorem kx_L_type_4 (l : Launch) (hst : l.stackTraces = false) (dC : Nat → ClassId) (dI : Nat → Nat → Nat) (ge5 gea gv5 gva gde gic gi0 : Nat) (h0 : Nat) (z0 : Nat) (z1 : Nat) (z2 : Nat) (z3 : Nat) (z4 : Nat) (z5 : Nat) (z6 : Nat) (sz : Nat) (i0 : Int32) (i0_l : (0 : Int) ≤ i0.toInt) (i0_u : i0.toInt ≤ (3 : Int)) (i1 : Int32) (i1_l : ((-1) : Int) ≤ i1.toInt) (i1_u : i1.toInt ≤ (3 : Int)) (i2 : Int32) (i2_l : ((-2147483648) : Int) ≤ i2.toInt) (i2_u : i2.toInt ≤ ((-2) : Int)) (i3 : Int32) (i3_l : ((-2147483648) : Int) ≤ i3.toInt) (i3_u : i3.toInt ≤ (2147483647 : Int)) (i4 : Int32) (i4_l : ((-2147483648) : Int) ≤ i4.toInt) (i4_u : i4.toInt ≤ (2147483647 : Int)) (i5 : Int32) (i5_l : ((-2147483648) : Int) ≤ i5.toInt) (i5_u : i5.toInt ≤ (2147483647 : Int)) : Met l yL_type wsL_type ({ frames := 8, cells := 1, slots := 6, locals := 167 }) (va_Pc [.ref h0, .int i0, .int i1, .int i2, .int i3, .int i4, .int i5, .ref z0] (fun U => U.heap.size = sz ∧ va_P (dC, dI) vwCl [(h0, .inr (7, [.ref z1, .ref z2, .ref z3, .ref z4, .ref z5, .ref z6, .int 0, .int 0, .int 0]))] U.heap ∧ va_K (dC, dI) vwCl [] U ∧ va_D (fun _ => True) [(h0, .inr (7, [.ref z1, .ref z2, .ref z3, .ref z4, .ref z5, .ref z6, .int 0, .int 0, .int 0]))] ∧ gv ge5 gea gv5 gva gde gic gi0 (va_A [(h0, .inr (7, [.ref z1, .ref z2, .ref z3, .ref z4, .ref z5, .ref z6, .int 0, .int 0, .int 0]))] sz) U U.heap)) (va_Qi (fun (r : Int32) (_ : Unit) => r = 2) (fun (_ : Unit) (t : State) => va_P (dC, dI) vwCl [(h0, .inr (7, [.ref z1, .ref z2, .ref z3, .ref z4, .ref z5, .ref z6, .int 0, .int 0, .int 0]))] t.heap ∧ va_K (dC, dI) vwCl [] t ∧ va_D (va_A [(h0, .inr (7, [.ref z1, .ref z2, .ref z3, .ref z4, .ref z5, .ref z6, .int 0, .int 0, .int 0]))] sz) [(h0, .inr (7, [.ref z1, .ref z2, .ref z3, .ref z4, .ref z5, .ref z6, .int 0, .int 0, .int 0]))]) (va_A [(h0, .inr (7, [.ref z1, .ref z2, .ref z3, .ref z4, .ref z5, .ref z6, .int 0, .int 0, .int 0]))] sz)) 1 6 (va_A [(h0, .inr (7, [.ref z1, .ref z2, .ref z3, .ref z4, .ref z5, .ref z6, .int 0, .int 0, .int 0]))] sz) := by
  refine kz_ofWH (cc := cL_type) (maxL := 9) (ret := (some .int)) (hh := [(0, 19, 22, 19), (0, 19, 26, 21), (0, 19, 30, 23)]) (by decide) rfl ?_
  intro p e s m args below meth c s₁ B hml hv
  obtain ⟨rfl, hsz, hP, hK, hD0, hG⟩ := hv
  have hx := B.exec
  have hb := B.bytes
  have hr := B.returns
  have hts := atoms_spec (ws := wsL_type) B.pre
  have hown : s.vm.findClass RL = some m.cls := findClass_of_methodNamed B.named
  have htab := vx_table (x := yL_type) B (hts (.codeWith yL_type cL_type 9 (some .int) [(0, 19, 22, 19), (0, 19, 26, 21), (0, 19, 30, 23)]) (by decide +kernel))
  have hlocks := B.notSynchronized
  subst hsz
  have hD := hD0.self (sz := s.heap.size)
  generalize hAe : va_A [(h0, .inr (7, [.ref z1, .ref z2, .ref z3, .ref z4, .ref z5, .ref z6, .int 0, .int 0, .int 0]))] s.heap.size = A at hD hG ⊢
  obtain ⟨⟨g_AO_Text, g_AO_String, g_AO_Object, g_nm_RX1_20, g_nm_RX0_17, g_nm_RX3_31, g_nm_RX2_44, g_nm_RL_121, g_nf_RL_13, g_nf_RL_47, g_ca_IO, g_ca_IA, g_ca_IS, g_ca_IntObj, g_ca_StrObj, g_de_RT, g_de_EX, g_de_TH, g_nc_IA_IO, g_nc_IS_IO, g_nc_IS_IA⟩, ⟨g_s3, g_s5, g_sa, g_x278, g_x280, g_x282, g_x284, g_x286, g_x180, g_x238, g_x250⟩, ⟨g_o5, g_c5, g_v5, g_t5, g_oa, g_ca, g_va, g_ta, g_zc, g_zd, g_td, g_zf, g_zU, g_zN, g_zh, g_zk, g_tk, g_oi, g_vi⟩⟩ := id hG
  have hA : ∀ q : Nat, s.heap.size ≤ q → A q := fun q h => by rw [← hAe]; exact Or.inr h
  have hS : va_S A s.heap s.heap [] := va_S.rf
  have hP : va_P (dC, dI) vwCl [(h0, .inr (7, [.ref z1, .ref z2, .ref z3, .ref z4, .ref z5, .ref z6, .int 0, .int 0, .int 0]))] s.heap := hP
  have hl := lv_entry ([.ref h0, .int i0, .int i1, .int i2, .int i3, .int i4, .int i5, .ref z0]) (n := 9) (Nat.le_of_ble_eq_true rfl)
  rw [lg_entry_eq]
  generalize (lg_sl ([.ref h0, .int i0, .int i1, .int i2, .int i3, .int i4, .int i5, .ref z0]) ++ List.replicate (9 - (lg_sl ([.ref h0, .int i0, .int i1, .int i2, .int i3, .int i4, .int i5, .ref z0])).length) Slot.unset).toArray = ls at hl ⊢
  have hl : lv_has ls 9 [(0, .ref h0), (1, .int i0), (2, .int i1), (3, .int i2), (4, .int i3), (5, .int i4), (6, .int i5), (7, .ref z0)] := hl
  refine lv_aload hx hb dL_type_0 (lv_at hl 7 rfl) ?_
  refine lv_aload_n hx hb dL_type_2 rfl (lv_at hl 0 rfl) ?_
  refine lv_iload_n hx hb dL_type_3 rfl (lv_at hl 1 rfl) ?_
  refine lv_iload_n hx hb dL_type_4 rfl (lv_at hl 2 rfl) ?_
  refine lv_iload_n hx hb dL_type_5 rfl (lv_at hl 3 rfl) ?_
  refine lv_iload hx hb dL_type_6 (lv_at hl 4 rfl) ?_
  refine lv_iload hx hb dL_type_8 (lv_at hl 5 rfl) ?_
  refine lv_iload hx hb dL_type_10 (lv_at hl 6 rfl) ?_
  have hPc := hP.sub (ws' := [(h0, .inr (7, [.ref z1, .ref z2, .ref z3, .ref z4, .ref z5, .ref z6, .int 0, .int 0, .int 0]))]) [0] rfl
  have hDc := hD.sub (ws' := [(h0, .inr (7, [.ref z1, .ref z2, .ref z3, .ref z4, .ref z5, .ref z6, .int 0, .int 0, .int 0]))]) [0] (by decide) rfl
  have hKc := hK.sub (tys' := []) [] rfl
  have hFc := va_free (wc := [(h0, .inr (7, [.ref z1, .ref z2, .ref z3, .ref z4, .ref z5, .ref z6, .int 0, .int 0, .int 0]))]) hD hS hA [0] rfl
  refine vx_calli (vx_runV (As := [.int i0, .int i1, .int i2, .int i3, .int i4, .int i5]) (rest := [.ref z0]) ⟨hx, hb, hml, hown, hts⟩ (kx_X3_type_4 l hst dC dI ge5 gea gv5 gva gde gic gi0 h0 z1 z2 z3 z4 z5 z6 s.heap.size i0 i0_l i0_u i1 i1_l i1_u i2 i2_l i2_u i3 i3_l i3_u i4 i4_l i4_u i5 i5_l i5_u) (cwV 6 hts gL_type_X3_type rfl rfl rfl (by decide +kernel) ⟨Nat.le_of_ble_eq_true rfl, Nat.le_of_ble_eq_true rfl⟩) ⟨fun a U g mk q => by obtain ⟨q0, q1, qP, qK, qD, qG⟩ := q; exact ⟨q0, q1, qP, va_K.moved (u := U) (U := U.calling g mk a) (Vm.Alike.refl U.vm) qK, qD, gv.fb qG⟩, va_recv hKc hPc (ci := 7) (q0 := 0) rfl rfl, fun U hU hW => ⟨rfl, by rw [hU], by rw [hU]; exact hPc, va_K.moved hW.alike hKc, hDc.weaken (fun _ _ _ _ => trivial), gv.pass hW hU hS hFc hG⟩⟩ rfl rfl hl.1 rfl (lv_room (Nat.le_of_ble_eq_true rfl)) dL_type_12 ⟨Nat.le_of_ble_eq_true rfl, Nat.le_of_ble_eq_true rfl⟩) hS (fun q _ h => hFc q h) hFc (fun q _ h => hFc q h) (fun E ce q9 u t H1 locs ht hvm hpx hB hz1 hk1 hS hce hcv hcl => ?_) (fun r9 u t H1 locs ht hvm hw hB hz1 hk1 hS => hw.elim)
  obtain ⟨rfl, hP1, hK1, hD1⟩ := hB
  rw [ht] at hP1
  have hK1 := va_K.moved hvm.symm hK1
  obtain ⟨hP, hD⟩ := va_join (wr := []) (w1 := [(h0, .inr (7, [.ref z1, .ref z2, .ref z3, .ref z4, .ref z5, .ref z6, .int 0, .int 0, .int 0]))]) hP hD [0] [] rfl rfl (by decide) (by decide) hk1 hFc hP1 hD1
  generalize H1 = H at hP hS hce ⊢
  have hP : va_P (dC, dI) vwCl [(h0, .inr (7, [.ref z1, .ref z2, .ref z3, .ref z4, .ref z5, .ref z6, .int 0, .int 0, .int 0]))] H := hP
  have hD : va_D A [(h0, .inr (7, [.ref z1, .ref z2, .ref z3, .ref z4, .ref z5, .ref z6, .int 0, .int 0, .int 0]))] := hD
  refine vx_catch (own := RL) (name := "java/lang/IllegalArgumentException") hown (tableOf [(0, 19, 22, 19)]) ⟨0, 19, 26, 21⟩ (tableOf [(0, 19, 30, 23)]) (by rw [htab]; rfl) (fun z hz => by
      simp only [tableOf, List.map_cons, List.map_nil, List.mem_cons, List.not_mem_nil, or_false] at hz
      rcases hz with rfl
      · exact Or.inr ⟨by decide, "java/lang/IndexOutOfBoundsException", hts (.classLink RL 19 "java/lang/IndexOutOfBoundsException") (by decide +kernel), g_nc_IA_IO⟩) (by decide +kernel) (by decide) (hts (.classLink RL 21 "java/lang/IllegalArgumentException") (by decide +kernel)) (va_Nw.use rfl g_ca_IA) hce hcv hcl ?_
  refine W.eq (g2 := F0 m 26 ls [.ref q9]) rfl ?_
  refine lv_astore (lv' := [(8, .ref q9), (0, .ref h0), (1, .int i0), (2, .int i1), (3, .int i2), (4, .int i3), (5, .int i4), (6, .int i5), (7, .ref z0)]) hx hb dL_type_26 hl (by decide) rfl (fun ls hl => ?_)
  refine lv_iconst (v := 2) hx hb dL_type_28 (by decide) ?_
  exact W.iret (v := 2) hx hb hr (fun t ht hW => ⟨⟨2, (), rfl, rfl, by rw [ht]; exact hP, va_K.moved hW.alike hK, hD⟩, hS.F ht⟩) hS.2.2 dL_type_29
set_option maxHeartbeats 4000000 in
set_option maxRecDepth 100000 in
theorem kx_X3_type_5 (l : Launch) (hst : l.stackTraces = false) (dC : Nat → ClassId) (dI : Nat → Nat → Nat) (ge5 gea gv5 gva gde gic gi0 : Nat) (h0 : Nat) (z0 : Nat) (z1 : Nat) (z2 : Nat) (z3 : Nat) (z4 : Nat) (z5 : Nat) (sz : Nat) (i0 : Int32) (i0_l : (0 : Int) ≤ i0.toInt) (i0_u : i0.toInt ≤ (3 : Int)) (i1 : Int32) (i1_l : ((-1) : Int) ≤ i1.toInt) (i1_u : i1.toInt ≤ (3 : Int)) (i2 : Int32) (i2_l : (4 : Int) ≤ i2.toInt) (i2_u : i2.toInt ≤ (2147483647 : Int)) (i3 : Int32) (i3_l : ((-2147483648) : Int) ≤ i3.toInt) (i3_u : i3.toInt ≤ (2147483647 : Int)) (i4 : Int32) (i4_l : ((-2147483648) : Int) ≤ i4.toInt) (i4_u : i4.toInt ≤ (2147483647 : Int)) (i5 : Int32) (i5_l : ((-2147483648) : Int) ≤ i5.toInt) (i5_u : i5.toInt ≤ (2147483647 : Int)) : vx_Met l yX3_type wsX3_type ({ frames := 7, cells := 1, slots := 6, locals := 140 }) (va_Pc [.ref h0, .int i0, .int i1, .int i2, .int i3, .int i4, .int i5] (fun U => U.heap.size = sz ∧ va_P (dC, dI) vwCl [(h0, .inr (7, [.ref z0, .ref z1, .ref z2, .ref z3, .ref z4, .ref z5, .int 0, .int 0, .int 0]))] U.heap ∧ va_K (dC, dI) vwCl [] U ∧ va_D (fun _ => True) [(h0, .inr (7, [.ref z0, .ref z1, .ref z2, .ref z3, .ref z4, .ref z5, .int 0, .int 0, .int 0]))] ∧ gv ge5 gea gv5 gva gde gic gi0 (va_A [(h0, .inr (7, [.ref z0, .ref z1, .ref z2, .ref z3, .ref z4, .ref z5, .int 0, .int 0, .int 0]))] sz) U U.heap)) (va_Qi (fun (_ : Int32) (_ : Unit) => False) (fun _ _ => True) (va_A [(h0, .inr (7, [.ref z0, .ref z1, .ref z2, .ref z3, .ref z4, .ref z5, .int 0, .int 0, .int 0]))] sz)) (vx_X (fun _ : Unit => True) (fun (E : String) (_ : Unit) (t : State) => E = "java/lang/IllegalArgumentException" ∧ va_P (dC, dI) vwCl [(h0, .inr (7, [.ref z0, .ref z1, .ref z2, .ref z3, .ref z4, .ref z5, .int 0, .int 0, .int 0]))] t.heap ∧ va_K (dC, dI) vwCl [] t ∧ va_D (va_A [(h0, .inr (7, [.ref z0, .ref z1, .ref z2, .ref z3, .ref z4, .ref z5, .int 0, .int 0, .int 0]))] sz) [(h0, .inr (7, [.ref z0, .ref z1, .ref z2, .ref z3, .ref z4, .ref z5, .int 0, .int 0, .int 0]))]) (va_A [(h0, .inr (7, [.ref z0, .ref z1, .ref z2, .ref z3, .ref z4, .ref z5, .int 0, .int 0, .int 0]))] sz)) 1 6 (va_A [(h0, .inr (7, [.ref z0, .ref z1, .ref z2, .ref z3, .ref z4, .ref z5, .int 0, .int 0, .int 0]))] sz) := by
  refine vx_ofW (cc := cX3_type) (maxL := 8) (ret := (some .int)) (by decide) rfl ?_
  intro p e s m args below meth c s₁ B hml ht9 hv
  obtain ⟨rfl, hsz, hP, hK, hD0, hG⟩ := hv
  have hx := B.exec
  have hb := B.bytes
  have hr := B.returns
  have hts := atoms_spec (ws := wsX3_type) B.pre
  have hown : s.vm.findClass RX3 = some m.cls := findClass_of_methodNamed B.named
  have hlocks := B.notSynchronized
  subst hsz
  have hD := hD0.self (sz := s.heap.size)
  generalize hAe : va_A [(h0, .inr (7, [.ref z0, .ref z1, .ref z2, .ref z3, .ref z4, .ref z5, .int 0, .int 0, .int 0]))] s.heap.size = A at hD hG ⊢
  obtain ⟨⟨g_AO_Text, g_AO_String, g_AO_Object, g_nm_RX1_20, g_nm_RX0_17, g_nm_RX3_31, g_nm_RX2_44, g_nm_RL_121, g_nf_RL_13, g_nf_RL_47, g_ca_IO, g_ca_IA, g_ca_IS, g_ca_IntObj, g_ca_StrObj, g_de_RT, g_de_EX, g_de_TH, g_nc_IA_IO, g_nc_IS_IO, g_nc_IS_IA⟩, ⟨g_s3, g_s5, g_sa, g_x278, g_x280, g_x282, g_x284, g_x286, g_x180, g_x238, g_x250⟩, ⟨g_o5, g_c5, g_v5, g_t5, g_oa, g_ca, g_va, g_ta, g_zc, g_zd, g_td, g_zf, g_zU, g_zN, g_zh, g_zk, g_tk, g_oi, g_vi⟩⟩ := id hG
  have hA : ∀ q : Nat, s.heap.size ≤ q → A q := fun q h => by rw [← hAe]; exact Or.inr h
  have hS : va_S A s.heap s.heap [] := va_S.rf
  have hP : va_P (dC, dI) vwCl [(h0, .inr (7, [.ref z0, .ref z1, .ref z2, .ref z3, .ref z4, .ref z5, .int 0, .int 0, .int 0]))] s.heap := hP
  have hl := lv_entry ([.ref h0, .int i0, .int i1, .int i2, .int i3, .int i4, .int i5]) (n := 8) (Nat.le_of_ble_eq_true rfl)
  rw [lg_entry_eq]
  generalize (lg_sl ([.ref h0, .int i0, .int i1, .int i2, .int i3, .int i4, .int i5]) ++ List.replicate (8 - (lg_sl ([.ref h0, .int i0, .int i1, .int i2, .int i3, .int i4, .int i5])).length) Slot.unset).toArray = ls at hl ⊢
  have hl : lv_has ls 8 [(0, .ref h0), (1, .int i0), (2, .int i1), (3, .int i2), (4, .int i3), (5, .int i4), (6, .int i5)] := hl
  refine lv_iload_n hx hb dX3_type_0 rfl (lv_at hl 1 rfl) ?_
  have hPc := hP.sub (ws' := []) [] rfl
  have hDc := hD.sub (ws' := []) [] (by decide) rfl
  have hKc := hK.sub (tys' := []) [] rfl
  have hFc := va_free (wc := []) hD hS hA [] rfl
  refine va_callv (va_runS (As := [.int i0]) (rest := []) ⟨hx, hb, hml, hown, hts⟩ (kx_X3_needRope_4 l dC dI s.heap.size i0 i0_l i0_u) (cwS 1 hts gX3_type_X3_needRope rfl rfl rfl (by decide +kernel) ⟨Nat.le_of_ble_eq_true rfl, Nat.le_of_ble_eq_true rfl⟩) ⟨fun a U g mk q => by obtain ⟨q0, q1, qP, qK, qD⟩ := q; exact ⟨q0, q1, qP, va_K.moved (u := U) (U := U.calling g mk a) (Vm.Alike.refl U.vm) qK, qD⟩, fun U hU hW => ⟨rfl, by rw [hU], by rw [hU]; exact hPc, va_K.moved hW.alike hKc, hDc.weaken (fun _ _ _ _ => trivial)⟩⟩ rfl rfl hl.1 rfl (lv_room (Nat.le_of_ble_eq_true rfl)) dX3_type_1 ⟨Nat.le_of_ble_eq_true rfl, Nat.le_of_ble_eq_true rfl⟩) hS (fun q _ h => hFc q h) hFc (fun u t H1 locs ht hvm hw hB hz1 hk1 hS => ?_)
  obtain ⟨hP1, hK1, hD1⟩ := hB
  rw [ht] at hP1
  have hK1 := va_K.moved hvm.symm hK1
  obtain ⟨hP, hD⟩ := va_join (wr := [(h0, .inr (7, [.ref z0, .ref z1, .ref z2, .ref z3, .ref z4, .ref z5, .int 0, .int 0, .int 0]))]) (w1 := []) hP hD [] [0] rfl rfl (by decide) (by decide) hk1 hFc hP1 hD1
  generalize H1 = H at hP hS ⊢
  have hP : va_P (dC, dI) vwCl [(h0, .inr (7, [.ref z0, .ref z1, .ref z2, .ref z3, .ref z4, .ref z5, .int 0, .int 0, .int 0]))] H := hP
  have hD : va_D A [(h0, .inr (7, [.ref z0, .ref z1, .ref z2, .ref z3, .ref z4, .ref z5, .int 0, .int 0, .int 0]))] := hD
  refine lv_iload_n hx hb dX3_type_4 rfl (lv_at hl 2 rfl) ?_
  have hPc := hP.sub (ws' := []) [] rfl
  have hDc := hD.sub (ws' := []) [] (by decide) rfl
  have hKc := hK.sub (tys' := []) [] rfl
  have hFc := va_free (wc := []) hD hS hA [] rfl
  refine va_callv (va_runS (As := [.int i1]) (rest := []) ⟨hx, hb, hml, hown, hts⟩ (kx_X3_needLetterOrNone_1 l dC dI H.size i1 i1_l i1_u) (cwS 1 hts gX3_type_X3_needLetterOrNone rfl rfl rfl (by decide +kernel) ⟨Nat.le_of_ble_eq_true rfl, Nat.le_of_ble_eq_true rfl⟩) ⟨fun a U g mk q => by obtain ⟨q0, q1, qP, qK, qD⟩ := q; exact ⟨q0, q1, qP, va_K.moved (u := U) (U := U.calling g mk a) (Vm.Alike.refl U.vm) qK, qD⟩, fun U hU hW => ⟨rfl, by rw [hU], by rw [hU]; exact hPc, va_K.moved hW.alike hKc, hDc.weaken (fun _ _ _ _ => trivial)⟩⟩ rfl rfl hl.1 rfl (lv_room (Nat.le_of_ble_eq_true rfl)) dX3_type_5 ⟨Nat.le_of_ble_eq_true rfl, Nat.le_of_ble_eq_true rfl⟩) hS (fun q _ h => hFc q h) hFc (fun u t H1 locs ht hvm hw hB hz1 hk1 hS => ?_)
  obtain ⟨hP1, hK1, hD1⟩ := hB
  rw [ht] at hP1
  have hK1 := va_K.moved hvm.symm hK1
  obtain ⟨hP, hD⟩ := va_join (wr := [(h0, .inr (7, [.ref z0, .ref z1, .ref z2, .ref z3, .ref z4, .ref z5, .int 0, .int 0, .int 0]))]) (w1 := []) hP hD [] [0] rfl rfl (by decide) (by decide) hk1 hFc hP1 hD1
  generalize H1 = H at hP hS ⊢
  have hP : va_P (dC, dI) vwCl [(h0, .inr (7, [.ref z0, .ref z1, .ref z2, .ref z3, .ref z4, .ref z5, .int 0, .int 0, .int 0]))] H := hP
  have hD : va_D A [(h0, .inr (7, [.ref z0, .ref z1, .ref z2, .ref z3, .ref z4, .ref z5, .int 0, .int 0, .int 0]))] := hD
  refine lv_iload_n hx hb dX3_type_8 rfl (lv_at hl 3 rfl) ?_
  have hPc := hP.sub (ws' := []) [] rfl
  have hDc := hD.sub (ws' := []) [] (by decide) rfl
  have hKc := hK.sub (tys' := []) [] rfl
  have hFc := va_free (wc := []) hD hS hA [] rfl
  refine vx_callv (vx_runS (As := [.int i2]) (rest := []) ⟨hx, hb, hml, hown, hts⟩ (kx_X3_needLetterOrNone_3 l hst dC dI ge5 gea gv5 gva gde gic gi0 H.size i2 i2_l i2_u) (cwS 1 hts gX3_type_X3_needLetterOrNone rfl rfl rfl (by decide +kernel) ⟨Nat.le_of_ble_eq_true rfl, Nat.le_of_ble_eq_true rfl⟩) ⟨fun a U g mk q => by obtain ⟨q0, q1, qP, qK, qD, qG⟩ := q; exact ⟨q0, q1, qP, va_K.moved (u := U) (U := U.calling g mk a) (Vm.Alike.refl U.vm) qK, qD, gv.fb qG⟩, fun U hU hW => ⟨rfl, by rw [hU], by rw [hU]; exact hPc, va_K.moved hW.alike hKc, hDc.weaken (fun _ _ _ _ => trivial), gv.pass hW hU hS hFc hG⟩⟩ rfl rfl hl.1 rfl (lv_room (Nat.le_of_ble_eq_true rfl)) dX3_type_9 ⟨Nat.le_of_ble_eq_true rfl, Nat.le_of_ble_eq_true rfl⟩) hS (fun q _ h => hFc q h) hFc (fun q _ h => hFc q h) (fun E ce q9 u t H1 locs ht hvm hpx hB hz1 hk1 hS hce hcv hcl => ?_) (fun u t H1 locs ht hvm hw hB hz1 hk1 hS => hw.elim)
  obtain ⟨rfl, hP1, hK1, hD1⟩ := hB
  rw [ht] at hP1
  have hK1 := va_K.moved hvm.symm hK1
  obtain ⟨hP, hD⟩ := va_join (wr := [(h0, .inr (7, [.ref z0, .ref z1, .ref z2, .ref z3, .ref z4, .ref z5, .int 0, .int 0, .int 0]))]) (w1 := []) hP hD [] [0] rfl rfl (by decide) (by decide) hk1 hFc hP1 hD1
  generalize H1 = H at hP hS hce ⊢
  have hP : va_P (dC, dI) vwCl [(h0, .inr (7, [.ref z0, .ref z1, .ref z2, .ref z3, .ref z4, .ref z5, .int 0, .int 0, .int 0]))] H := hP
  have hD : va_D A [(h0, .inr (7, [.ref z0, .ref z1, .ref z2, .ref z3, .ref z4, .ref z5, .int 0, .int 0, .int 0]))] := hD
  exact vx_out (fun x hx9 => (ht9 x hx9).elim) hlocks hce hcv hcl (fun t ht hW => ⟨(), trivial, ⟨rfl, by rw [ht]; exact hP, va_K.moved hW hK, hD⟩, hS.F ht⟩) hS.2.2 (by omega) (by omega)
set_option maxHeartbeats 4000000 in
set_option maxRecDepth 100000 in
theorem kx_L_type_5 (l : Launch) (hst : l.stackTraces = false) (dC : Nat → ClassId) (dI : Nat → Nat → Nat) (ge5 gea gv5 gva gde gic gi0 : Nat) (h0 : Nat) (z0 : Nat) (z1 : Nat) (z2 : Nat) (z3 : Nat) (z4 : Nat) (z5 : Nat) (z6 : Nat) (sz : Nat) (i0 : Int32) (i0_l : (0 : Int) ≤ i0.toInt) (i0_u : i0.toInt ≤ (3 : Int)) (i1 : Int32) (i1_l : ((-1) : Int) ≤ i1.toInt) (i1_u : i1.toInt ≤ (3 : Int)) (i2 : Int32) (i2_l : (4 : Int) ≤ i2.toInt) (i2_u : i2.toInt ≤ (2147483647 : Int)) (i3 : Int32) (i3_l : ((-2147483648) : Int) ≤ i3.toInt) (i3_u : i3.toInt ≤ (2147483647 : Int)) (i4 : Int32) (i4_l : ((-2147483648) : Int) ≤ i4.toInt) (i4_u : i4.toInt ≤ (2147483647 : Int)) (i5 : Int32) (i5_l : ((-2147483648) : Int) ≤ i5.toInt) (i5_u : i5.toInt ≤ (2147483647 : Int)) : Met l yL_type wsL_type ({ frames := 8, cells := 1, slots := 6, locals := 167 }) (va_Pc [.ref h0, .int i0, .int i1, .int i2, .int i3, .int i4, .int i5, .ref z0] (fun U => U.heap.size = sz ∧ va_P (dC, dI) vwCl [(h0, .inr (7, [.ref z1, .ref z2, .ref z3, .ref z4, .ref z5, .ref z6, .int 0, .int 0, .int 0]))] U.heap ∧ va_K (dC, dI) vwCl [] U ∧ va_D (fun _ => True) [(h0, .inr (7, [.ref z1, .ref z2, .ref z3, .ref z4, .ref z5, .ref z6, .int 0, .int 0, .int 0]))] ∧ gv ge5 gea gv5 gva gde gic gi0 (va_A [(h0, .inr (7, [.ref z1, .ref z2, .ref z3, .ref z4, .ref z5, .ref z6, .int 0, .int 0, .int 0]))] sz) U U.heap)) (va_Qi (fun (r : Int32) (_ : Unit) => r = 2) (fun (_ : Unit) (t : State) => va_P (dC, dI) vwCl [(h0, .inr (7, [.ref z1, .ref z2, .ref z3, .ref z4, .ref z5, .ref z6, .int 0, .int 0, .int 0]))] t.heap ∧ va_K (dC, dI) vwCl [] t ∧ va_D (va_A [(h0, .inr (7, [.ref z1, .ref z2, .ref z3, .ref z4, .ref z5, .ref z6, .int 0, .int 0, .int 0]))] sz) [(h0, .inr (7, [.ref z1, .ref z2, .ref z3, .ref z4, .ref z5, .ref z6, .int 0, .int 0, .int 0]))]) (va_A [(h0, .inr (7, [.ref z1, .ref z2, .ref z3, .ref z4, .ref z5, .ref z6, .int 0, .int 0, .int 0]))] sz)) 1 6 (va_A [(h0, .inr (7, [.ref z1, .ref z2, .ref z3, .ref z4, .ref z5, .ref z6, .int 0, .int 0, .int 0]))] sz) := by
  refine kz_ofWH (cc := cL_type) (maxL := 9) (ret := (some .int)) (hh := [(0, 19, 22, 19), (0, 19, 26, 21), (0, 19, 30, 23)]) (by decide) rfl ?_
  intro p e s m args below meth c s₁ B hml hv
  obtain ⟨rfl, hsz, hP, hK, hD0, hG⟩ := hv
  have hx := B.exec
  have hb := B.bytes
  have hr := B.returns
  have hts := atoms_spec (ws := wsL_type) B.pre
  have hown : s.vm.findClass RL = some m.cls := findClass_of_methodNamed B.named
  have htab := vx_table (x := yL_type) B (hts (.codeWith yL_type cL_type 9 (some .int) [(0, 19, 22, 19), (0, 19, 26, 21), (0, 19, 30, 23)]) (by decide +kernel))
  have hlocks := B.notSynchronized
  subst hsz
  have hD := hD0.self (sz := s.heap.size)
  generalize hAe : va_A [(h0, .inr (7, [.ref z1, .ref z2, .ref z3, .ref z4, .ref z5, .ref z6, .int 0, .int 0, .int 0]))] s.heap.size = A at hD hG ⊢
  obtain ⟨⟨g_AO_Text, g_AO_String, g_AO_Object, g_nm_RX1_20, g_nm_RX0_17, g_nm_RX3_31, g_nm_RX2_44, g_nm_RL_121, g_nf_RL_13, g_nf_RL_47, g_ca_IO, g_ca_IA, g_ca_IS, g_ca_IntObj, g_ca_StrObj, g_de_RT, g_de_EX, g_de_TH, g_nc_IA_IO, g_nc_IS_IO, g_nc_IS_IA⟩, ⟨g_s3, g_s5, g_sa, g_x278, g_x280, g_x282, g_x284, g_x286, g_x180, g_x238, g_x250⟩, ⟨g_o5, g_c5, g_v5, g_t5, g_oa, g_ca, g_va, g_ta, g_zc, g_zd, g_td, g_zf, g_zU, g_zN, g_zh, g_zk, g_tk, g_oi, g_vi⟩⟩ := id hG
  have hA : ∀ q : Nat, s.heap.size ≤ q → A q := fun q h => by rw [← hAe]; exact Or.inr h
  have hS : va_S A s.heap s.heap [] := va_S.rf
  have hP : va_P (dC, dI) vwCl [(h0, .inr (7, [.ref z1, .ref z2, .ref z3, .ref z4, .ref z5, .ref z6, .int 0, .int 0, .int 0]))] s.heap := hP
  have hl := lv_entry ([.ref h0, .int i0, .int i1, .int i2, .int i3, .int i4, .int i5, .ref z0]) (n := 9) (Nat.le_of_ble_eq_true rfl)
  rw [lg_entry_eq]
  generalize (lg_sl ([.ref h0, .int i0, .int i1, .int i2, .int i3, .int i4, .int i5, .ref z0]) ++ List.replicate (9 - (lg_sl ([.ref h0, .int i0, .int i1, .int i2, .int i3, .int i4, .int i5, .ref z0])).length) Slot.unset).toArray = ls at hl ⊢
  have hl : lv_has ls 9 [(0, .ref h0), (1, .int i0), (2, .int i1), (3, .int i2), (4, .int i3), (5, .int i4), (6, .int i5), (7, .ref z0)] := hl
  refine lv_aload hx hb dL_type_0 (lv_at hl 7 rfl) ?_
  refine lv_aload_n hx hb dL_type_2 rfl (lv_at hl 0 rfl) ?_
  refine lv_iload_n hx hb dL_type_3 rfl (lv_at hl 1 rfl) ?_
  refine lv_iload_n hx hb dL_type_4 rfl (lv_at hl 2 rfl) ?_
  refine lv_iload_n hx hb dL_type_5 rfl (lv_at hl 3 rfl) ?_
  refine lv_iload hx hb dL_type_6 (lv_at hl 4 rfl) ?_
  refine lv_iload hx hb dL_type_8 (lv_at hl 5 rfl) ?_
  refine lv_iload hx hb dL_type_10 (lv_at hl 6 rfl) ?_
  have hPc := hP.sub (ws' := [(h0, .inr (7, [.ref z1, .ref z2, .ref z3, .ref z4, .ref z5, .ref z6, .int 0, .int 0, .int 0]))]) [0] rfl
  have hDc := hD.sub (ws' := [(h0, .inr (7, [.ref z1, .ref z2, .ref z3, .ref z4, .ref z5, .ref z6, .int 0, .int 0, .int 0]))]) [0] (by decide) rfl
  have hKc := hK.sub (tys' := []) [] rfl
  have hFc := va_free (wc := [(h0, .inr (7, [.ref z1, .ref z2, .ref z3, .ref z4, .ref z5, .ref z6, .int 0, .int 0, .int 0]))]) hD hS hA [0] rfl
  refine vx_calli (vx_runV (As := [.int i0, .int i1, .int i2, .int i3, .int i4, .int i5]) (rest := [.ref z0]) ⟨hx, hb, hml, hown, hts⟩ (kx_X3_type_5 l hst dC dI ge5 gea gv5 gva gde gic gi0 h0 z1 z2 z3 z4 z5 z6 s.heap.size i0 i0_l i0_u i1 i1_l i1_u i2 i2_l i2_u i3 i3_l i3_u i4 i4_l i4_u i5 i5_l i5_u) (cwV 6 hts gL_type_X3_type rfl rfl rfl (by decide +kernel) ⟨Nat.le_of_ble_eq_true rfl, Nat.le_of_ble_eq_true rfl⟩) ⟨fun a U g mk q => by obtain ⟨q0, q1, qP, qK, qD, qG⟩ := q; exact ⟨q0, q1, qP, va_K.moved (u := U) (U := U.calling g mk a) (Vm.Alike.refl U.vm) qK, qD, gv.fb qG⟩, va_recv hKc hPc (ci := 7) (q0 := 0) rfl rfl, fun U hU hW => ⟨rfl, by rw [hU], by rw [hU]; exact hPc, va_K.moved hW.alike hKc, hDc.weaken (fun _ _ _ _ => trivial), gv.pass hW hU hS hFc hG⟩⟩ rfl rfl hl.1 rfl (lv_room (Nat.le_of_ble_eq_true rfl)) dL_type_12 ⟨Nat.le_of_ble_eq_true rfl, Nat.le_of_ble_eq_true rfl⟩) hS (fun q _ h => hFc q h) hFc (fun q _ h => hFc q h) (fun E ce q9 u t H1 locs ht hvm hpx hB hz1 hk1 hS hce hcv hcl => ?_) (fun r9 u t H1 locs ht hvm hw hB hz1 hk1 hS => hw.elim)
  obtain ⟨rfl, hP1, hK1, hD1⟩ := hB
  rw [ht] at hP1
  have hK1 := va_K.moved hvm.symm hK1
  obtain ⟨hP, hD⟩ := va_join (wr := []) (w1 := [(h0, .inr (7, [.ref z1, .ref z2, .ref z3, .ref z4, .ref z5, .ref z6, .int 0, .int 0, .int 0]))]) hP hD [0] [] rfl rfl (by decide) (by decide) hk1 hFc hP1 hD1
  generalize H1 = H at hP hS hce ⊢
  have hP : va_P (dC, dI) vwCl [(h0, .inr (7, [.ref z1, .ref z2, .ref z3, .ref z4, .ref z5, .ref z6, .int 0, .int 0, .int 0]))] H := hP
  have hD : va_D A [(h0, .inr (7, [.ref z1, .ref z2, .ref z3, .ref z4, .ref z5, .ref z6, .int 0, .int 0, .int 0]))] := hD
  refine vx_catch (own := RL) (name := "java/lang/IllegalArgumentException") hown (tableOf [(0, 19, 22, 19)]) ⟨0, 19, 26, 21⟩ (tableOf [(0, 19, 30, 23)]) (by rw [htab]; rfl) (fun z hz => by
      simp only [tableOf, List.map_cons, List.map_nil, List.mem_cons, List.not_mem_nil, or_false] at hz
      rcases hz with rfl
      · exact Or.inr ⟨by decide, "java/lang/IndexOutOfBoundsException", hts (.classLink RL 19 "java/lang/IndexOutOfBoundsException") (by decide +kernel), g_nc_IA_IO⟩) (by decide +kernel) (by decide) (hts (.classLink RL 21 "java/lang/IllegalArgumentException") (by decide +kernel)) (va_Nw.use rfl g_ca_IA) hce hcv hcl ?_
  refine W.eq (g2 := F0 m 26 ls [.ref q9]) rfl ?_
  refine lv_astore (lv' := [(8, .ref q9), (0, .ref h0), (1, .int i0), (2, .int i1), (3, .int i2), (4, .int i3), (5, .int i4), (6, .int i5), (7, .ref z0)]) hx hb dL_type_26 hl (by decide) rfl (fun ls hl => ?_)
  refine lv_iconst (v := 2) hx hb dL_type_28 (by decide) ?_
  exact W.iret (v := 2) hx hb hr (fun t ht hW => ⟨⟨2, (), rfl, rfl, by rw [ht]; exact hP, va_K.moved hW.alike hK, hD⟩, hS.F ht⟩) hS.2.2 dL_type_29
set_option maxHeartbeats 4000000 in
set_option maxRecDepth 100000 in
theorem kx_X3_type_6 (l : Launch) (hst : l.stackTraces = false) (dC : Nat → ClassId) (dI : Nat → Nat → Nat) (ge5 gea gv5 gva gde gic gi0 : Nat) (h0 : Nat) (z0 : Nat) (z1 : Nat) (z2 : Nat) (z3 : Nat) (z4 : Nat) (z5 : Nat) (sz : Nat) (i0 : Int32) (i0_l : (0 : Int) ≤ i0.toInt) (i0_u : i0.toInt ≤ (3 : Int)) (i1 : Int32) (i1_l : ((-1) : Int) ≤ i1.toInt) (i1_u : i1.toInt ≤ (3 : Int)) (i2 : Int32) (i2_l : ((-1) : Int) ≤ i2.toInt) (i2_u : i2.toInt ≤ (3 : Int)) (i3 : Int32) (i3_l : ((-2147483648) : Int) ≤ i3.toInt) (i3_u : i3.toInt ≤ ((-2) : Int)) (i4 : Int32) (i4_l : ((-2147483648) : Int) ≤ i4.toInt) (i4_u : i4.toInt ≤ (2147483647 : Int)) (i5 : Int32) (i5_l : ((-2147483648) : Int) ≤ i5.toInt) (i5_u : i5.toInt ≤ (2147483647 : Int)) : vx_Met l yX3_type wsX3_type ({ frames := 7, cells := 1, slots := 6, locals := 140 }) (va_Pc [.ref h0, .int i0, .int i1, .int i2, .int i3, .int i4, .int i5] (fun U => U.heap.size = sz ∧ va_P (dC, dI) vwCl [(h0, .inr (7, [.ref z0, .ref z1, .ref z2, .ref z3, .ref z4, .ref z5, .int 0, .int 0, .int 0]))] U.heap ∧ va_K (dC, dI) vwCl [] U ∧ va_D (fun _ => True) [(h0, .inr (7, [.ref z0, .ref z1, .ref z2, .ref z3, .ref z4, .ref z5, .int 0, .int 0, .int 0]))] ∧ gv ge5 gea gv5 gva gde gic gi0 (va_A [(h0, .inr (7, [.ref z0, .ref z1, .ref z2, .ref z3, .ref z4, .ref z5, .int 0, .int 0, .int 0]))] sz) U U.heap)) (va_Qi (fun (_ : Int32) (_ : Unit) => False) (fun _ _ => True) (va_A [(h0, .inr (7, [.ref z0, .ref z1, .ref z2, .ref z3, .ref z4, .ref z5, .int 0, .int 0, .int 0]))] sz)) (vx_X (fun _ : Unit => True) (fun (E : String) (_ : Unit) (t : State) => E = "java/lang/IllegalArgumentException" ∧ va_P (dC, dI) vwCl [(h0, .inr (7, [.ref z0, .ref z1, .ref z2, .ref z3, .ref z4, .ref z5, .int 0, .int 0, .int 0]))] t.heap ∧ va_K (dC, dI) vwCl [] t ∧ va_D (va_A [(h0, .inr (7, [.ref z0, .ref z1, .ref z2, .ref z3, .ref z4, .ref z5, .int 0, .int 0, .int 0]))] sz) [(h0, .inr (7, [.ref z0, .ref z1, .ref z2, .ref z3, .ref z4, .ref z5, .int 0, .int 0, .int 0]))]) (va_A [(h0, .inr (7, [.ref z0, .ref z1, .ref z2, .ref z3, .ref z4, .ref z5, .int 0, .int 0, .int 0]))] sz)) 1 6 (va_A [(h0, .inr (7, [.ref z0, .ref z1, .ref z2, .ref z3, .ref z4, .ref z5, .int 0, .int 0, .int 0]))] sz) := by
  refine vx_ofW (cc := cX3_type) (maxL := 8) (ret := (some .int)) (by decide) rfl ?_
  intro p e s m args below meth c s₁ B hml ht9 hv
  obtain ⟨rfl, hsz, hP, hK, hD0, hG⟩ := hv
  have hx := B.exec
  have hb := B.bytes
  have hr := B.returns
  have hts := atoms_spec (ws := wsX3_type) B.pre
  have hown : s.vm.findClass RX3 = some m.cls := findClass_of_methodNamed B.named
  have hlocks := B.notSynchronized
  subst hsz
  have hD := hD0.self (sz := s.heap.size)
  generalize hAe : va_A [(h0, .inr (7, [.ref z0, .ref z1, .ref z2, .ref z3, .ref z4, .ref z5, .int 0, .int 0, .int 0]))] s.heap.size = A at hD hG ⊢
  obtain ⟨⟨g_AO_Text, g_AO_String, g_AO_Object, g_nm_RX1_20, g_nm_RX0_17, g_nm_RX3_31, g_nm_RX2_44, g_nm_RL_121, g_nf_RL_13, g_nf_RL_47, g_ca_IO, g_ca_IA, g_ca_IS, g_ca_IntObj, g_ca_StrObj, g_de_RT, g_de_EX, g_de_TH, g_nc_IA_IO, g_nc_IS_IO, g_nc_IS_IA⟩, ⟨g_s3, g_s5, g_sa, g_x278, g_x280, g_x282, g_x284, g_x286, g_x180, g_x238, g_x250⟩, ⟨g_o5, g_c5, g_v5, g_t5, g_oa, g_ca, g_va, g_ta, g_zc, g_zd, g_td, g_zf, g_zU, g_zN, g_zh, g_zk, g_tk, g_oi, g_vi⟩⟩ := id hG
  have hA : ∀ q : Nat, s.heap.size ≤ q → A q := fun q h => by rw [← hAe]; exact Or.inr h
  have hS : va_S A s.heap s.heap [] := va_S.rf
  have hP : va_P (dC, dI) vwCl [(h0, .inr (7, [.ref z0, .ref z1, .ref z2, .ref z3, .ref z4, .ref z5, .int 0, .int 0, .int 0]))] s.heap := hP
  have hl := lv_entry ([.ref h0, .int i0, .int i1, .int i2, .int i3, .int i4, .int i5]) (n := 8) (Nat.le_of_ble_eq_true rfl)
  rw [lg_entry_eq]
  generalize (lg_sl ([.ref h0, .int i0, .int i1, .int i2, .int i3, .int i4, .int i5]) ++ List.replicate (8 - (lg_sl ([.ref h0, .int i0, .int i1, .int i2, .int i3, .int i4, .int i5])).length) Slot.unset).toArray = ls at hl ⊢
  have hl : lv_has ls 8 [(0, .ref h0), (1, .int i0), (2, .int i1), (3, .int i2), (4, .int i3), (5, .int i4), (6, .int i5)] := hl
  refine lv_iload_n hx hb dX3_type_0 rfl (lv_at hl 1 rfl) ?_
  have hPc := hP.sub (ws' := []) [] rfl
  have hDc := hD.sub (ws' := []) [] (by decide) rfl
  have hKc := hK.sub (tys' := []) [] rfl
  have hFc := va_free (wc := []) hD hS hA [] rfl
  refine va_callv (va_runS (As := [.int i0]) (rest := []) ⟨hx, hb, hml, hown, hts⟩ (kx_X3_needRope_4 l dC dI s.heap.size i0 i0_l i0_u) (cwS 1 hts gX3_type_X3_needRope rfl rfl rfl (by decide +kernel) ⟨Nat.le_of_ble_eq_true rfl, Nat.le_of_ble_eq_true rfl⟩) ⟨fun a U g mk q => by obtain ⟨q0, q1, qP, qK, qD⟩ := q; exact ⟨q0, q1, qP, va_K.moved (u := U) (U := U.calling g mk a) (Vm.Alike.refl U.vm) qK, qD⟩, fun U hU hW => ⟨rfl, by rw [hU], by rw [hU]; exact hPc, va_K.moved hW.alike hKc, hDc.weaken (fun _ _ _ _ => trivial)⟩⟩ rfl rfl hl.1 rfl (lv_room (Nat.le_of_ble_eq_true rfl)) dX3_type_1 ⟨Nat.le_of_ble_eq_true rfl, Nat.le_of_ble_eq_true rfl⟩) hS (fun q _ h => hFc q h) hFc (fun u t H1 locs ht hvm hw hB hz1 hk1 hS => ?_)
  obtain ⟨hP1, hK1, hD1⟩ := hB
  rw [ht] at hP1
  have hK1 := va_K.moved hvm.symm hK1
  obtain ⟨hP, hD⟩ := va_join (wr := [(h0, .inr (7, [.ref z0, .ref z1, .ref z2, .ref z3, .ref z4, .ref z5, .int 0, .int 0, .int 0]))]) (w1 := []) hP hD [] [0] rfl rfl (by decide) (by decide) hk1 hFc hP1 hD1
  generalize H1 = H at hP hS ⊢
  have hP : va_P (dC, dI) vwCl [(h0, .inr (7, [.ref z0, .ref z1, .ref z2, .ref z3, .ref z4, .ref z5, .int 0, .int 0, .int 0]))] H := hP
  have hD : va_D A [(h0, .inr (7, [.ref z0, .ref z1, .ref z2, .ref z3, .ref z4, .ref z5, .int 0, .int 0, .int 0]))] := hD
  refine lv_iload_n hx hb dX3_type_4 rfl (lv_at hl 2 rfl) ?_
  have hPc := hP.sub (ws' := []) [] rfl
  have hDc := hD.sub (ws' := []) [] (by decide) rfl
  have hKc := hK.sub (tys' := []) [] rfl
  have hFc := va_free (wc := []) hD hS hA [] rfl
  refine va_callv (va_runS (As := [.int i1]) (rest := []) ⟨hx, hb, hml, hown, hts⟩ (kx_X3_needLetterOrNone_1 l dC dI H.size i1 i1_l i1_u) (cwS 1 hts gX3_type_X3_needLetterOrNone rfl rfl rfl (by decide +kernel) ⟨Nat.le_of_ble_eq_true rfl, Nat.le_of_ble_eq_true rfl⟩) ⟨fun a U g mk q => by obtain ⟨q0, q1, qP, qK, qD⟩ := q; exact ⟨q0, q1, qP, va_K.moved (u := U) (U := U.calling g mk a) (Vm.Alike.refl U.vm) qK, qD⟩, fun U hU hW => ⟨rfl, by rw [hU], by rw [hU]; exact hPc, va_K.moved hW.alike hKc, hDc.weaken (fun _ _ _ _ => trivial)⟩⟩ rfl rfl hl.1 rfl (lv_room (Nat.le_of_ble_eq_true rfl)) dX3_type_5 ⟨Nat.le_of_ble_eq_true rfl, Nat.le_of_ble_eq_true rfl⟩) hS (fun q _ h => hFc q h) hFc (fun u t H1 locs ht hvm hw hB hz1 hk1 hS => ?_)
  obtain ⟨hP1, hK1, hD1⟩ := hB
  rw [ht] at hP1
  have hK1 := va_K.moved hvm.symm hK1
  obtain ⟨hP, hD⟩ := va_join (wr := [(h0, .inr (7, [.ref z0, .ref z1, .ref z2, .ref z3, .ref z4, .ref z5, .int 0, .int 0, .int 0]))]) (w1 := []) hP hD [] [0] rfl rfl (by decide) (by decide) hk1 hFc hP1 hD1
  generalize H1 = H at hP hS ⊢
  have hP : va_P (dC, dI) vwCl [(h0, .inr (7, [.ref z0, .ref z1, .ref z2, .ref z3, .ref z4, .ref z5, .int 0, .int 0, .int 0]))] H := hP
  have hD : va_D A [(h0, .inr (7, [.ref z0, .ref z1, .ref z2, .ref z3, .ref z4, .ref z5, .int 0, .int 0, .int 0]))] := hD
  refine lv_iload_n hx hb dX3_type_8 rfl (lv_at hl 3 rfl) ?_
  have hPc := hP.sub (ws' := []) [] rfl
  have hDc := hD.sub (ws' := []) [] (by decide) rfl
  have hKc := hK.sub (tys' := []) [] rfl
  have hFc := va_free (wc := []) hD hS hA [] rfl
  refine va_callv (va_runS (As := [.int i2]) (rest := []) ⟨hx, hb, hml, hown, hts⟩ (kx_X3_needLetterOrNone_1 l dC dI H.size i2 i2_l i2_u) (cwS 1 hts gX3_type_X3_needLetterOrNone rfl rfl rfl (by decide +kernel) ⟨Nat.le_of_ble_eq_true rfl, Nat.le_of_ble_eq_true rfl⟩) ⟨fun a U g mk q => by obtain ⟨q0, q1, qP, qK, qD⟩ := q; exact ⟨q0, q1, qP, va_K.moved (u := U) (U := U.calling g mk a) (Vm.Alike.refl U.vm) qK, qD⟩, fun U hU hW => ⟨rfl, by rw [hU], by rw [hU]; exact hPc, va_K.moved hW.alike hKc, hDc.weaken (fun _ _ _ _ => trivial)⟩⟩ rfl rfl hl.1 rfl (lv_room (Nat.le_of_ble_eq_true rfl)) dX3_type_9 ⟨Nat.le_of_ble_eq_true rfl, Nat.le_of_ble_eq_true rfl⟩) hS (fun q _ h => hFc q h) hFc (fun u t H1 locs ht hvm hw hB hz1 hk1 hS => ?_)
  obtain ⟨hP1, hK1, hD1⟩ := hB
  rw [ht] at hP1
  have hK1 := va_K.moved hvm.symm hK1
  obtain ⟨hP, hD⟩ := va_join (wr := [(h0, .inr (7, [.ref z0, .ref z1, .ref z2, .ref z3, .ref z4, .ref z5, .int 0, .int 0, .int 0]))]) (w1 := []) hP hD [] [0] rfl rfl (by decide) (by decide) hk1 hFc hP1 hD1
  generalize H1 = H at hP hS ⊢
  have hP : va_P (dC, dI) vwCl [(h0, .inr (7, [.ref z0, .ref z1, .ref z2, .ref z3, .ref z4, .ref z5, .int 0, .int 0, .int 0]))] H := hP
  have hD : va_D A [(h0, .inr (7, [.ref z0, .ref z1, .ref z2, .ref z3, .ref z4, .ref z5, .int 0, .int 0, .int 0]))] := hD
  refine lv_iload hx hb dX3_type_12 (lv_at hl 4 rfl) ?_
  have hPc := hP.sub (ws' := []) [] rfl
  have hDc := hD.sub (ws' := []) [] (by decide) rfl
  have hKc := hK.sub (tys' := []) [] rfl
  have hFc := va_free (wc := []) hD hS hA [] rfl
  refine vx_callv (vx_runS (As := [.int i3]) (rest := []) ⟨hx, hb, hml, hown, hts⟩ (kx_X3_needLetterOrNone_2 l hst dC dI ge5 gea gv5 gva gde gic gi0 H.size i3 i3_l i3_u) (cwS 1 hts gX3_type_X3_needLetterOrNone rfl rfl rfl (by decide +kernel) ⟨Nat.le_of_ble_eq_true rfl, Nat.le_of_ble_eq_true rfl⟩) ⟨fun a U g mk q => by obtain ⟨q0, q1, qP, qK, qD, qG⟩ := q; exact ⟨q0, q1, qP, va_K.moved (u := U) (U := U.calling g mk a) (Vm.Alike.refl U.vm) qK, qD, gv.fb qG⟩, fun U hU hW => ⟨rfl, by rw [hU], by rw [hU]; exact hPc, va_K.moved hW.alike hKc, hDc.weaken (fun _ _ _ _ => trivial), gv.pass hW hU hS hFc hG⟩⟩ rfl rfl hl.1 rfl (lv_room (Nat.le_of_ble_eq_true rfl)) dX3_type_14 ⟨Nat.le_of_ble_eq_true rfl, Nat.le_of_ble_eq_true rfl⟩) hS (fun q _ h => hFc q h) hFc (fun q _ h => hFc q h) (fun E ce q9 u t H1 locs ht hvm hpx hB hz1 hk1 hS hce hcv hcl => ?_) (fun u t H1 locs ht hvm hw hB hz1 hk1 hS => hw.elim)
  obtain ⟨rfl, hP1, hK1, hD1⟩ := hB
  rw [ht] at hP1
  have hK1 := va_K.moved hvm.symm hK1
  obtain ⟨hP, hD⟩ := va_join (wr := [(h0, .inr (7, [.ref z0, .ref z1, .ref z2, .ref z3, .ref z4, .ref z5, .int 0, .int 0, .int 0]))]) (w1 := []) hP hD [] [0] rfl rfl (by decide) (by decide) hk1 hFc hP1 hD1
  generalize H1 = H at hP hS hce ⊢
  have hP : va_P (dC, dI) vwCl [(h0, .inr (7, [.ref z0, .ref z1, .ref z2, .ref z3, .ref z4, .ref z5, .int 0, .int 0, .int 0]))] H := hP
  have hD : va_D A [(h0, .inr (7, [.ref z0, .ref z1, .ref z2, .ref z3, .ref z4, .ref z5, .int 0, .int 0, .int 0]))] := hD
  exact vx_out (fun x hx9 => (ht9 x hx9).elim) hlocks hce hcv hcl (fun t ht hW => ⟨(), trivial, ⟨rfl, by rw [ht]; exact hP, va_K.moved hW hK, hD⟩, hS.F ht⟩) hS.2.2 (by omega) (by omega)
set_option maxHeartbeats 4000000 in
set_option maxRecDepth 100000 in
theorem kx_L_type_6 (l : Launch) (hst : l.stackTraces = false) (dC : Nat → ClassId) (dI : Nat → Nat → Nat) (ge5 gea gv5 gva gde gic gi0 : Nat) (h0 : Nat) (z0 : Nat) (z1 : Nat) (z2 : Nat) (z3 : Nat) (z4 : Nat) (z5 : Nat) (z6 : Nat) (sz : Nat) (i0 : Int32) (i0_l : (0 : Int) ≤ i0.toInt) (i0_u : i0.toInt ≤ (3 : Int)) (i1 : Int32) (i1_l : ((-1) : Int) ≤ i1.toInt) (i1_u : i1.toInt ≤ (3 : Int)) (i2 : Int32) (i2_l : ((-1) : Int) ≤ i2.toInt) (i2_u : i2.toInt ≤ (3 : Int)) (i3 : Int32) (i3_l : ((-2147483648) : Int) ≤ i3.toInt) (i3_u : i3.toInt ≤ ((-2) : Int)) (i4 : Int32) (i4_l : ((-2147483648) : Int) ≤ i4.toInt) (i4_u : i4.toInt ≤ (2147483647 : Int)) (i5 : Int32) (i5_l : ((-2147483648) : Int) ≤ i5.toInt) (i5_u : i5.toInt ≤ (2147483647 : Int)) : Met l yL_type wsL_type ({ frames := 8, cells := 1, slots := 6, locals := 167 }) (va_Pc [.ref h0, .int i0, .int i1, .int i2, .int i3, .int i4, .int i5, .ref z0] (fun U => U.heap.size = sz ∧ va_P (dC, dI) vwCl [(h0, .inr (7, [.ref z1, .ref z2, .ref z3, .ref z4, .ref z5, .ref z6, .int 0, .int 0, .int 0]))] U.heap ∧ va_K (dC, dI) vwCl [] U ∧ va_D (fun _ => True) [(h0, .inr (7, [.ref z1, .ref z2, .ref z3, .ref z4, .ref z5, .ref z6, .int 0, .int 0, .int 0]))] ∧ gv ge5 gea gv5 gva gde gic gi0 (va_A [(h0, .inr (7, [.ref z1, .ref z2, .ref z3, .ref z4, .ref z5, .ref z6, .int 0, .int 0, .int 0]))] sz) U U.heap)) (va_Qi (fun (r : Int32) (_ : Unit) => r = 2) (fun (_ : Unit) (t : State) => va_P (dC, dI) vwCl [(h0, .inr (7, [.ref z1, .ref z2, .ref z3, .ref z4, .ref z5, .ref z6, .int 0, .int 0, .int 0]))] t.heap ∧ va_K (dC, dI) vwCl [] t ∧ va_D (va_A [(h0, .inr (7, [.ref z1, .ref z2, .ref z3, .ref z4, .ref z5, .ref z6, .int 0, .int 0, .int 0]))] sz) [(h0, .inr (7, [.ref z1, .ref z2, .ref z3, .ref z4, .ref z5, .ref z6, .int 0, .int 0, .int 0]))]) (va_A [(h0, .inr (7, [.ref z1, .ref z2, .ref z3, .ref z4, .ref z5, .ref z6, .int 0, .int 0, .int 0]))] sz)) 1 6 (va_A [(h0, .inr (7, [.ref z1, .ref z2, .ref z3, .ref z4, .ref z5, .ref z6, .int 0, .int 0, .int 0]))] sz) := by
  refine kz_ofWH (cc := cL_type) (maxL := 9) (ret := (some .int)) (hh := [(0, 19, 22, 19), (0, 19, 26, 21), (0, 19, 30, 23)]) (by decide) rfl ?_
  intro p e s m args below meth c s₁ B hml hv
  obtain ⟨rfl, hsz, hP, hK, hD0, hG⟩ := hv
  have hx := B.exec
  have hb := B.bytes
  have hr := B.returns
  have hts := atoms_spec (ws := wsL_type) B.pre
  have hown : s.vm.findClass RL = some m.cls := findClass_of_methodNamed B.named
  have htab := vx_table (x := yL_type) B (hts (.codeWith yL_type cL_type 9 (some .int) [(0, 19, 22, 19), (0, 19, 26, 21), (0, 19, 30, 23)]) (by decide +kernel))
  have hlocks := B.notSynchronized
  subst hsz
  have hD := hD0.self (sz := s.heap.size)
  generalize hAe : va_A [(h0, .inr (7, [.ref z1, .ref z2, .ref z3, .ref z4, .ref z5, .ref z6, .int 0, .int 0, .int 0]))] s.heap.size = A at hD hG ⊢
  obtain ⟨⟨g_AO_Text, g_AO_String, g_AO_Object, g_nm_RX1_20, g_nm_RX0_17, g_nm_RX3_31, g_nm_RX2_44, g_nm_RL_121, g_nf_RL_13, g_nf_RL_47, g_ca_IO, g_ca_IA, g_ca_IS, g_ca_IntObj, g_ca_StrObj, g_de_RT, g_de_EX, g_de_TH, g_nc_IA_IO, g_nc_IS_IO, g_nc_IS_IA⟩, ⟨g_s3, g_s5, g_sa, g_x278, g_x280, g_x282, g_x284, g_x286, g_x180, g_x238, g_x250⟩, ⟨g_o5, g_c5, g_v5, g_t5, g_oa, g_ca, g_va, g_ta, g_zc, g_zd, g_td, g_zf, g_zU, g_zN, g_zh, g_zk, g_tk, g_oi, g_vi⟩⟩ := id hG
  have hA : ∀ q : Nat, s.heap.size ≤ q → A q := fun q h => by rw [← hAe]; exact Or.inr h
  have hS : va_S A s.heap s.heap [] := va_S.rf
  have hP : va_P (dC, dI) vwCl [(h0, .inr (7, [.ref z1, .ref z2, .ref z3, .ref z4, .ref z5, .ref z6, .int 0, .int 0, .int 0]))] s.heap := hP
  have hl := lv_entry ([.ref h0, .int i0, .int i1, .int i2, .int i3, .int i4, .int i5, .ref z0]) (n := 9) (Nat.le_of_ble_eq_true rfl)
  rw [lg_entry_eq]
  generalize (lg_sl ([.ref h0, .int i0, .int i1, .int i2, .int i3, .int i4, .int i5, .ref z0]) ++ List.replicate (9 - (lg_sl ([.ref h0, .int i0, .int i1, .int i2, .int i3, .int i4, .int i5, .ref z0])).length) Slot.unset).toArray = ls at hl ⊢
  have hl : lv_has ls 9 [(0, .ref h0), (1, .int i0), (2, .int i1), (3, .int i2), (4, .int i3), (5, .int i4), (6, .int i5), (7, .ref z0)] := hl
  refine lv_aload hx hb dL_type_0 (lv_at hl 7 rfl) ?_
  refine lv_aload_n hx hb dL_type_2 rfl (lv_at hl 0 rfl) ?_
  refine lv_iload_n hx hb dL_type_3 rfl (lv_at hl 1 rfl) ?_
  refine lv_iload_n hx hb dL_type_4 rfl (lv_at hl 2 rfl) ?_
  refine lv_iload_n hx hb dL_type_5 rfl (lv_at hl 3 rfl) ?_
  refine lv_iload hx hb dL_type_6 (lv_at hl 4 rfl) ?_
  refine lv_iload hx hb dL_type_8 (lv_at hl 5 rfl) ?_
  refine lv_iload hx hb dL_type_10 (lv_at hl 6 rfl) ?_
  have hPc := hP.sub (ws' := [(h0, .inr (7, [.ref z1, .ref z2, .ref z3, .ref z4, .ref z5, .ref z6, .int 0, .int 0, .int 0]))]) [0] rfl
  have hDc := hD.sub (ws' := [(h0, .inr (7, [.ref z1, .ref z2, .ref z3, .ref z4, .ref z5, .ref z6, .int 0, .int 0, .int 0]))]) [0] (by decide) rfl
  have hKc := hK.sub (tys' := []) [] rfl
  have hFc := va_free (wc := [(h0, .inr (7, [.ref z1, .ref z2, .ref z3, .ref z4, .ref z5, .ref z6, .int 0, .int 0, .int 0]))]) hD hS hA [0] rfl
  refine vx_calli (vx_runV (As := [.int i0, .int i1, .int i2, .int i3, .int i4, .int i5]) (rest := [.ref z0]) ⟨hx, hb, hml, hown, hts⟩ (kx_X3_type_6 l hst dC dI ge5 gea gv5 gva gde gic gi0 h0 z1 z2 z3 z4 z5 z6 s.heap.size i0 i0_l i0_u i1 i1_l i1_u i2 i2_l i2_u i3 i3_l i3_u i4 i4_l i4_u i5 i5_l i5_u) (cwV 6 hts gL_type_X3_type rfl rfl rfl (by decide +kernel) ⟨Nat.le_of_ble_eq_true rfl, Nat.le_of_ble_eq_true rfl⟩) ⟨fun a U g mk q => by obtain ⟨q0, q1, qP, qK, qD, qG⟩ := q; exact ⟨q0, q1, qP, va_K.moved (u := U) (U := U.calling g mk a) (Vm.Alike.refl U.vm) qK, qD, gv.fb qG⟩, va_recv hKc hPc (ci := 7) (q0 := 0) rfl rfl, fun U hU hW => ⟨rfl, by rw [hU], by rw [hU]; exact hPc, va_K.moved hW.alike hKc, hDc.weaken (fun _ _ _ _ => trivial), gv.pass hW hU hS hFc hG⟩⟩ rfl rfl hl.1 rfl (lv_room (Nat.le_of_ble_eq_true rfl)) dL_type_12 ⟨Nat.le_of_ble_eq_true rfl, Nat.le_of_ble_eq_true rfl⟩) hS (fun q _ h => hFc q h) hFc (fun q _ h => hFc q h) (fun E ce q9 u t H1 locs ht hvm hpx hB hz1 hk1 hS hce hcv hcl => ?_) (fun r9 u t H1 locs ht hvm hw hB hz1 hk1 hS => hw.elim)
  obtain ⟨rfl, hP1, hK1, hD1⟩ := hB
  rw [ht] at hP1
  have hK1 := va_K.moved hvm.symm hK1
  obtain ⟨hP, hD⟩ := va_join (wr := []) (w1 := [(h0, .inr (7, [.ref z1, .ref z2, .ref z3, .ref z4, .ref z5, .ref z6, .int 0, .int 0, .int 0]))]) hP hD [0] [] rfl rfl (by decide) (by decide) hk1 hFc hP1 hD1
  generalize H1 = H at hP hS hce ⊢
  have hP : va_P (dC, dI) vwCl [(h0, .inr (7, [.ref z1, .ref z2, .ref z3, .ref z4, .ref z5, .ref z6, .int 0, .int 0, .int 0]))] H := hP
  have hD : va_D A [(h0, .inr (7, [.ref z1, .ref z2, .ref z3, .ref z4, .ref z5, .ref z6, .int 0, .int 0, .int 0]))] := hD
  refine vx_catch (own := RL) (name := "java/lang/IllegalArgumentException") hown (tableOf [(0, 19, 22, 19)]) ⟨0, 19, 26, 21⟩ (tableOf [(0, 19, 30, 23)]) (by rw [htab]; rfl) (fun z hz => by
      simp only [tableOf, List.map_cons, List.map_nil, List.mem_cons, List.not_mem_nil, or_false] at hz
      rcases hz with rfl
      · exact Or.inr ⟨by decide, "java/lang/IndexOutOfBoundsException", hts (.classLink RL 19 "java/lang/IndexOutOfBoundsException") (by decide +kernel), g_nc_IA_IO⟩) (by decide +kernel) (by decide) (hts (.classLink RL 21 "java/lang/IllegalArgumentException") (by decide +kernel)) (va_Nw.use rfl g_ca_IA) hce hcv hcl ?_
  refine W.eq (g2 := F0 m 26 ls [.ref q9]) rfl ?_
  refine lv_astore (lv' := [(8, .ref q9), (0, .ref h0), (1, .int i0), (2, .int i1), (3, .int i2), (4, .int i3), (5, .int i4), (6, .int i5), (7, .ref z0)]) hx hb dL_type_26 hl (by decide) rfl (fun ls hl => ?_)
  refine lv_iconst (v := 2) hx hb dL_type_28 (by decide) ?_
  exact W.iret (v := 2) hx hb hr (fun t ht hW => ⟨⟨2, (), rfl, rfl, by rw [ht]; exact hP, va_K.moved hW.alike hK, hD⟩, hS.F ht⟩) hS.2.2 dL_type_29
set_option maxHeartbeats 4000000 in
set_option maxRecDepth 100000 in
theorem kx_X3_type_7 (l : Launch) (hst : l.stackTraces = false) (dC : Nat → ClassId) (dI : Nat → Nat → Nat) (ge5 gea gv5 gva gde gic gi0 : Nat) (h0 : Nat) (z0 : Nat) (z1 : Nat) (z2 : Nat) (z3 : Nat) (z4 : Nat) (z5 : Nat) (sz : Nat) (i0 : Int32) (i0_l : (0 : Int) ≤ i0.toInt) (i0_u : i0.toInt ≤ (3 : Int)) (i1 : Int32) (i1_l : ((-1) : Int) ≤ i1.toInt) (i1_u : i1.toInt ≤ (3 : Int)) (i2 : Int32) (i2_l : ((-1) : Int) ≤ i2.toInt) (i2_u : i2.toInt ≤ (3 : Int)) (i3 : Int32) (i3_l : (4 : Int) ≤ i3.toInt) (i3_u : i3.toInt ≤ (2147483647 : Int)) (i4 : Int32) (i4_l : ((-2147483648) : Int) ≤ i4.toInt) (i4_u : i4.toInt ≤ (2147483647 : Int)) (i5 : Int32) (i5_l : ((-2147483648) : Int) ≤ i5.toInt) (i5_u : i5.toInt ≤ (2147483647 : Int)) : vx_Met l yX3_type wsX3_type ({ frames := 7, cells := 1, slots := 6, locals := 140 }) (va_Pc [.ref h0, .int i0, .int i1, .int i2, .int i3, .int i4, .int i5] (fun U => U.heap.size = sz ∧ va_P (dC, dI) vwCl [(h0, .inr (7, [.ref z0, .ref z1, .ref z2, .ref z3, .ref z4, .ref z5, .int 0, .int 0, .int 0]))] U.heap ∧ va_K (dC, dI) vwCl [] U ∧ va_D (fun _ => True) [(h0, .inr (7, [.ref z0, .ref z1, .ref z2, .ref z3, .ref z4, .ref z5, .int 0, .int 0, .int 0]))] ∧ gv ge5 gea gv5 gva gde gic gi0 (va_A [(h0, .inr (7, [.ref z0, .ref z1, .ref z2, .ref z3, .ref z4, .ref z5, .int 0, .int 0, .int 0]))] sz) U U.heap)) (va_Qi (fun (_ : Int32) (_ : Unit) => False) (fun _ _ => True) (va_A [(h0, .inr (7, [.ref z0, .ref z1, .ref z2, .ref z3, .ref z4, .ref z5, .int 0, .int 0, .int 0]))] sz)) (vx_X (fun _ : Unit => True) (fun (E : String) (_ : Unit) (t : State) => E = "java/lang/IllegalArgumentException" ∧ va_P (dC, dI) vwCl [(h0, .inr (7, [.ref z0, .ref z1, .ref z2, .ref z3, .ref z4, .ref z5, .int 0, .int 0, .int 0]))] t.heap ∧ va_K (dC, dI) vwCl [] t ∧ va_D (va_A [(h0, .inr (7, [.ref z0, .ref z1, .ref z2, .ref z3, .ref z4, .ref z5, .int 0, .int 0, .int 0]))] sz) [(h0, .inr (7, [.ref z0, .ref z1, .ref z2, .ref z3, .ref z4, .ref z5, .int 0, .int 0, .int 0]))]) (va_A [(h0, .inr (7, [.ref z0, .ref z1, .ref z2, .ref z3, .ref z4, .ref z5, .int 0, .int 0, .int 0]))] sz)) 1 6 (va_A [(h0, .inr (7, [.ref z0, .ref z1, .ref z2, .ref z3, .ref z4, .ref z5, .int 0, .int 0, .int 0]))] sz) := by
  refine vx_ofW (cc := cX3_type) (maxL := 8) (ret := (some .int)) (by decide) rfl ?_
  intro p e s m args below meth c s₁ B hml ht9 hv
  obtain ⟨rfl, hsz, hP, hK, hD0, hG⟩ := hv
  have hx := B.exec
  have hb := B.bytes
  have hr := B.returns
  have hts := atoms_spec (ws := wsX3_type) B.pre
  have hown : s.vm.findClass RX3 = some m.cls := findClass_of_methodNamed B.named
  have hlocks := B.notSynchronized
  subst hsz
  have hD := hD0.self (sz := s.heap.size)
  generalize hAe : va_A [(h0, .inr (7, [.ref z0, .ref z1, .ref z2, .ref z3, .ref z4, .ref z5, .int 0, .int 0, .int 0]))] s.heap.size = A at hD hG ⊢
  obtain ⟨⟨g_AO_Text, g_AO_String, g_AO_Object, g_nm_RX1_20, g_nm_RX0_17, g_nm_RX3_31, g_nm_RX2_44, g_nm_RL_121, g_nf_RL_13, g_nf_RL_47, g_ca_IO, g_ca_IA, g_ca_IS, g_ca_IntObj, g_ca_StrObj, g_de_RT, g_de_EX, g_de_TH, g_nc_IA_IO, g_nc_IS_IO, g_nc_IS_IA⟩, ⟨g_s3, g_s5, g_sa, g_x278, g_x280, g_x282, g_x284, g_x286, g_x180, g_x238, g_x250⟩, ⟨g_o5, g_c5, g_v5, g_t5, g_oa, g_ca, g_va, g_ta, g_zc, g_zd, g_td, g_zf, g_zU, g_zN, g_zh, g_zk, g_tk, g_oi, g_vi⟩⟩ := id hG
  have hA : ∀ q : Nat, s.heap.size ≤ q → A q := fun q h => by rw [← hAe]; exact Or.inr h
  have hS : va_S A s.heap s.heap [] := va_S.rf
  have hP : va_P (dC, dI) vwCl [(h0, .inr (7, [.ref z0, .ref z1, .ref z2, .ref z3, .ref z4, .ref z5, .int 0, .int 0, .int 0]))] s.heap := hP
  have hl := lv_entry ([.ref h0, .int i0, .int i1, .int i2, .int i3, .int i4, .int i5]) (n := 8) (Nat.le_of_ble_eq_true rfl)
  rw [lg_entry_eq]
  generalize (lg_sl ([.ref h0, .int i0, .int i1, .int i2, .int i3, .int i4, .int i5]) ++ List.replicate (8 - (lg_sl ([.ref h0, .int i0, .int i1, .int i2, .int i3, .int i4, .int i5])).length) Slot.unset).toArray = ls at hl ⊢
  have hl : lv_has ls 8 [(0, .ref h0), (1, .int i0), (2, .int i1), (3, .int i2), (4, .int i3), (5, .int i4), (6, .int i5)] := hl
  refine lv_iload_n hx hb dX3_type_0 rfl (lv_at hl 1 rfl) ?_
  have hPc := hP.sub (ws' := []) [] rfl
  have hDc := hD.sub (ws' := []) [] (by decide) rfl
  have hKc := hK.sub (tys' := []) [] rfl
  have hFc := va_free (wc := []) hD hS hA [] rfl
  refine va_callv (va_runS (As := [.int i0]) (rest := []) ⟨hx, hb, hml, hown, hts⟩ (kx_X3_needRope_4 l dC dI s.heap.size i0 i0_l i0_u) (cwS 1 hts gX3_type_X3_needRope rfl rfl rfl (by decide +kernel) ⟨Nat.le_of_ble_eq_true rfl, Nat.le_of_ble_eq_true rfl⟩) ⟨fun a U g mk q => by obtain ⟨q0, q1, qP, qK, qD⟩ := q; exact ⟨q0, q1, qP, va_K.moved (u := U) (U := U.calling g mk a) (Vm.Alike.refl U.vm) qK, qD⟩, fun U hU hW => ⟨rfl, by rw [hU], by rw [hU]; exact hPc, va_K.moved hW.alike hKc, hDc.weaken (fun _ _ _ _ => trivial)⟩⟩ rfl rfl hl.1 rfl (lv_room (Nat.le_of_ble_eq_true rfl)) dX3_type_1 ⟨Nat.le_of_ble_eq_true rfl, Nat.le_of_ble_eq_true rfl⟩) hS (fun q _ h => hFc q h) hFc (fun u t H1 locs ht hvm hw hB hz1 hk1 hS => ?_)
  obtain ⟨hP1, hK1, hD1⟩ := hB
  rw [ht] at hP1
  have hK1 := va_K.moved hvm.symm hK1
  obtain ⟨hP, hD⟩ := va_join (wr := [(h0, .inr (7, [.ref z0, .ref z1, .ref z2, .ref z3, .ref z4, .ref z5, .int 0, .int 0, .int 0]))]) (w1 := []) hP hD [] [0] rfl rfl (by decide) (by decide) hk1 hFc hP1 hD1
  generalize H1 = H at hP hS ⊢
  have hP : va_P (dC, dI) vwCl [(h0, .inr (7, [.ref z0, .ref z1, .ref z2, .ref z3, .ref z4, .ref z5, .int 0, .int 0, .int 0]))] H := hP
  have hD : va_D A [(h0, .inr (7, [.ref z0, .ref z1, .ref z2, .ref z3, .ref z4, .ref z5, .int 0, .int 0, .int 0]))] := hD
  refine lv_iload_n hx hb dX3_type_4 rfl (lv_at hl 2 rfl) ?_
  have hPc := hP.sub (ws' := []) [] rfl
  have hDc := hD.sub (ws' := []) [] (by decide) rfl
  have hKc := hK.sub (tys' := []) [] rfl
  have hFc := va_free (wc := []) hD hS hA [] rfl
  refine va_callv (va_runS (As := [.int i1]) (rest := []) ⟨hx, hb, hml, hown, hts⟩ (kx_X3_needLetterOrNone_1 l dC dI H.size i1 i1_l i1_u) (cwS 1 hts gX3_type_X3_needLetterOrNone rfl rfl rfl (by decide +kernel) ⟨Nat.le_of_ble_eq_true rfl, Nat.le_of_ble_eq_true rfl⟩) ⟨fun a U g mk q => by obtain ⟨q0, q1, qP, qK, qD⟩ := q; exact ⟨q0, q1, qP, va_K.moved (u := U) (U := U.calling g mk a) (Vm.Alike.refl U.vm) qK, qD⟩, fun U hU hW => ⟨rfl, by rw [hU], by rw [hU]; exact hPc, va_K.moved hW.alike hKc, hDc.weaken (fun _ _ _ _ => trivial)⟩⟩ rfl rfl hl.1 rfl (lv_room (Nat.le_of_ble_eq_true rfl)) dX3_type_5 ⟨Nat.le_of_ble_eq_true rfl, Nat.le_of_ble_eq_true rfl⟩) hS (fun q _ h => hFc q h) hFc (fun u t H1 locs ht hvm hw hB hz1 hk1 hS => ?_)
  obtain ⟨hP1, hK1, hD1⟩ := hB
  rw [ht] at hP1
  have hK1 := va_K.moved hvm.symm hK1
  obtain ⟨hP, hD⟩ := va_join (wr := [(h0, .inr (7, [.ref z0, .ref z1, .ref z2, .ref z3, .ref z4, .ref z5, .int 0, .int 0, .int 0]))]) (w1 := []) hP hD [] [0] rfl rfl (by decide) (by decide) hk1 hFc hP1 hD1
  generalize H1 = H at hP hS ⊢
  have hP : va_P (dC, dI) vwCl [(h0, .inr (7, [.ref z0, .ref z1, .ref z2, .ref z3, .ref z4, .ref z5, .int 0, .int 0, .int 0]))] H := hP
  have hD : va_D A [(h0, .inr (7, [.ref z0, .ref z1, .ref z2, .ref z3, .ref z4, .ref z5, .int 0, .int 0, .int 0]))] := hD
  refine lv_iload_n hx hb dX3_type_8 rfl (lv_at hl 3 rfl) ?_
  have hPc := hP.sub (ws' := []) [] rfl
  have hDc := hD.sub (ws' := []) [] (by decide) rfl
  have hKc := hK.sub (tys' := []) [] rfl
  have hFc := va_free (wc := []) hD hS hA [] rfl
  refine va_callv (va_runS (As := [.int i2]) (rest := []) ⟨hx, hb, hml, hown, hts⟩ (kx_X3_needLetterOrNone_1 l dC dI H.size i2 i2_l i2_u) (cwS 1 hts gX3_type_X3_needLetterOrNone rfl rfl rfl (by decide +kernel) ⟨Nat.le_of_ble_eq_true rfl, Nat.le_of_ble_eq_true rfl⟩) ⟨fun a U g mk q => by obtain ⟨q0, q1, qP, qK, qD⟩ := q; exact ⟨q0, q1, qP, va_K.moved (u := U) (U := U.calling g mk a) (Vm.Alike.refl U.vm) qK, qD⟩, fun U hU hW => ⟨rfl, by rw [hU], by rw [hU]; exact hPc, va_K.moved hW.alike hKc, hDc.weaken (fun _ _ _ _ => trivial)⟩⟩ rfl rfl hl.1 rfl (lv_room (Nat.le_of_ble_eq_true rfl)) dX3_type_9 ⟨Nat.le_of_ble_eq_true rfl, Nat.le_of_ble_eq_true rfl⟩) hS (fun q _ h => hFc q h) hFc (fun u t H1 locs ht hvm hw hB hz1 hk1 hS => ?_)
  obtain ⟨hP1, hK1, hD1⟩ := hB
  rw [ht] at hP1
  have hK1 := va_K.moved hvm.symm hK1
  obtain ⟨hP, hD⟩ := va_join (wr := [(h0, .inr (7, [.ref z0, .ref z1, .ref z2, .ref z3, .ref z4, .ref z5, .int 0, .int 0, .int 0]))]) (w1 := []) hP hD [] [0] rfl rfl (by decide) (by decide) hk1 hFc hP1 hD1
  generalize H1 = H at hP hS ⊢
  have hP : va_P (dC, dI) vwCl [(h0, .inr (7, [.ref z0, .ref z1, .ref z2, .ref z3, .ref z4, .ref z5, .int 0, .int 0, .int 0]))] H := hP
  have hD : va_D A [(h0, .inr (7, [.ref z0, .ref z1, .ref z2, .ref z3, .ref z4, .ref z5, .int 0, .int 0, .int 0]))] := hD
  refine lv_iload hx hb dX3_type_12 (lv_at hl 4 rfl) ?_
  have hPc := hP.sub (ws' := []) [] rfl
  have hDc := hD.sub (ws' := []) [] (by decide) rfl
  have hKc := hK.sub (tys' := []) [] rfl
  have hFc := va_free (wc := []) hD hS hA [] rfl
  refine vx_callv (vx_runS (As := [.int i3]) (rest := []) ⟨hx, hb, hml, hown, hts⟩ (kx_X3_needLetterOrNone_3 l hst dC dI ge5 gea gv5 gva gde gic gi0 H.size i3 i3_l i3_u) (cwS 1 hts gX3_type_X3_needLetterOrNone rfl rfl rfl (by decide +kernel) ⟨Nat.le_of_ble_eq_true rfl, Nat.le_of_ble_eq_true rfl⟩) ⟨fun a U g mk q => by obtain ⟨q0, q1, qP, qK, qD, qG⟩ := q; exact ⟨q0, q1, qP, va_K.moved (u := U) (U := U.calling g mk a) (Vm.Alike.refl U.vm) qK, qD, gv.fb qG⟩, fun U hU hW => ⟨rfl, by rw [hU], by rw [hU]; exact hPc, va_K.moved hW.alike hKc, hDc.weaken (fun _ _ _ _ => trivial), gv.pass hW hU hS hFc hG⟩⟩ rfl rfl hl.1 rfl (lv_room (Nat.le_of_ble_eq_true rfl)) dX3_type_14 ⟨Nat.le_of_ble_eq_true rfl, Nat.le_of_ble_eq_true rfl⟩) hS (fun q _ h => hFc q h) hFc (fun q _ h => hFc q h) (fun E ce q9 u t H1 locs ht hvm hpx hB hz1 hk1 hS hce hcv hcl => ?_) (fun u t H1 locs ht hvm hw hB hz1 hk1 hS => hw.elim)
  obtain ⟨rfl, hP1, hK1, hD1⟩ := hB
  rw [ht] at hP1
  have hK1 := va_K.moved hvm.symm hK1
  obtain ⟨hP, hD⟩ := va_join (wr := [(h0, .inr (7, [.ref z0, .ref z1, .ref z2, .ref z3, .ref z4, .ref z5, .int 0, .int 0, .int 0]))]) (w1 := []) hP hD [] [0] rfl rfl (by decide) (by decide) hk1 hFc hP1 hD1
  generalize H1 = H at hP hS hce ⊢
  have hP : va_P (dC, dI) vwCl [(h0, .inr (7, [.ref z0, .ref z1, .ref z2, .ref z3, .ref z4, .ref z5, .int 0, .int 0, .int 0]))] H := hP
  have hD : va_D A [(h0, .inr (7, [.ref z0, .ref z1, .ref z2, .ref z3, .ref z4, .ref z5, .int 0, .int 0, .int 0]))] := hD
  exact vx_out (fun x hx9 => (ht9 x hx9).elim) hlocks hce hcv hcl (fun t ht hW => ⟨(), trivial, ⟨rfl, by rw [ht]; exact hP, va_K.moved hW hK, hD⟩, hS.F ht⟩) hS.2.2 (by omega) (by omega)
