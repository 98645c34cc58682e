set_option maxHeartbeats 4000000 in
set_option maxRecDepth 100000 in
theorem lx_head {p : Program} {e : Env} {s : State} {m : MethodId} {below : List Frame} {meth : Method} {c : Code} {l : Launch} (hst : l.stackTraces = false) {b L : Nat} {xs : Nat → Int32} (hL : L ≤ 7) (C8 : lx_D p s m meth c b L xs) {dC : Nat → ClassId} {dI : Nat → Nat → Nat} {ge5 gea gv5 gva gde gic gi0 : Nat} {x0 x1 x2 x45 x53 x54 x55 x56 x57 x58 x59 x60 x61 x62 x63 x64 x65 x66 m0 m1 m2 o0 x3 x4 x5 x7 x9 x11 x46 x47 x49 x51 m3 : Nat} {xc0 xc27 xc28 xc29 xc30 xc31 xc32 xc33 mc0 : ClassId} (hG : gv ge5 gea gv5 gva gde gic gi0 (fun q => s.heap.size ≤ q) s s.heap) {H : Heap} {locs : List Loc} (hK : va_K (dC, dI) vwCl [(xc0, .object "Rewriterope$Text"), (xc27, .byte), (xc28, .byte), (xc29, .byte), (xc30, .byte), (xc31, .byte), (xc32, .byte), (xc33, .byte), (mc0, .object "java/lang/String")] s) (hP : va_P (dC, dI) vwCl [(x0, .inr (7, [.ref x1, .ref x2, .ref x45, .ref x53, .ref x55, .ref x57, .int 0, .int 0, .int 0])), (x1, .inl (xc0, 4, .inr (.inr (.inr (.inr (va_up (va_up (va_up (va_up (fun _ => none) 0 (some x59)) 1 (some x61)) 2 (some x63)) 3 (some x65))))))), (x2, .inr (5, [.ref x3, .ref x4, .ref x5, .ref x7, .ref x9, .ref x11, .int 0, .int 0])), (x45, .inr (4, [.ref x2, .ref x46, .ref x47, .ref x49, .ref x51, .int 0, .int 0, .int (-2)])), (x53, .inr (6, [.ref x54, .int 0])), (x54, .inl (xc27, 64, .inl (fun _ => 0))), (x55, .inr (6, [.ref x56, .int 0])), (x56, .inl (xc28, 64, .inl (fun _ => 0))), (x57, .inr (6, [.ref x58, .int 0])), (x58, .inl (xc29, 64, .inl (fun _ => 0))), (x59, .inr (6, [.ref x60, .int 0])), (x60, .inl (xc30, 64, .inl (fun _ => 0))), (x61, .inr (6, [.ref x62, .int 0])), (x62, .inl (xc31, 64, .inl (fun _ => 0))), (x63, .inr (6, [.ref x64, .int 0])), (x64, .inl (xc32, 64, .inl (fun _ => 0))), (x65, .inr (6, [.ref x66, .int 0])), (x66, .inl (xc33, 64, .inl (fun _ => 0))), (m0, .inr (9, [.int 0, .ref m1, .ref m2, .ref m3, .int 0, .int 0, .int 0])), (m1, .inl (mc0, 4, .inr (.inr (.inr (.inr (va_up (va_up (va_up (va_up (fun _ => none) 0 (some ge5)) 1 (some ge5)) 2 (some ge5)) 3 (some ge5))))))), (m2, .inr (3, [.int 0, .ref gde, .int 0])), (o0, .inr (8, [.long 0, .null]))] H) (hD : va_D (fun q => s.heap.size ≤ q) [(x0, .inr (7, [.ref x1, .ref x2, .ref x45, .ref x53, .ref x55, .ref x57, .int 0, .int 0, .int 0])), (x1, .inl (xc0, 4, .inr (.inr (.inr (.inr (va_up (va_up (va_up (va_up (fun _ => none) 0 (some x59)) 1 (some x61)) 2 (some x63)) 3 (some x65))))))), (x2, .inr (5, [.ref x3, .ref x4, .ref x5, .ref x7, .ref x9, .ref x11, .int 0, .int 0])), (x45, .inr (4, [.ref x2, .ref x46, .ref x47, .ref x49, .ref x51, .int 0, .int 0, .int (-2)])), (x53, .inr (6, [.ref x54, .int 0])), (x54, .inl (xc27, 64, .inl (fun _ => 0))), (x55, .inr (6, [.ref x56, .int 0])), (x56, .inl (xc28, 64, .inl (fun _ => 0))), (x57, .inr (6, [.ref x58, .int 0])), (x58, .inl (xc29, 64, .inl (fun _ => 0))), (x59, .inr (6, [.ref x60, .int 0])), (x60, .inl (xc30, 64, .inl (fun _ => 0))), (x61, .inr (6, [.ref x62, .int 0])), (x62, .inl (xc31, 64, .inl (fun _ => 0))), (x63, .inr (6, [.ref x64, .int 0])), (x64, .inl (xc32, 64, .inl (fun _ => 0))), (x65, .inr (6, [.ref x66, .int 0])), (x66, .inl (xc33, 64, .inl (fun _ => 0))), (m0, .inr (9, [.int 0, .ref m1, .ref m2, .ref m3, .int 0, .int 0, .int 0])), (m1, .inl (mc0, 4, .inr (.inr (.inr (.inr (va_up (va_up (va_up (va_up (fun _ => none) 0 (some ge5)) 1 (some ge5)) 2 (some ge5)) 3 (some ge5))))))), (m2, .inr (3, [.int 0, .ref gde, .int 0])), (o0, .inr (8, [.long 0, .null]))]) (hS : va_S (fun q => s.heap.size ≤ q) s.heap H locs) {ls : Array Slot} (hl : lv_has ls 7 [(4, .int 0), (3, .ref o0), (2, .ref m0), (1, .ref x0), (0, .ref b)]) : W p l e room_1 s m #[Value.ref b] below meth c H locs 72 2748 (lw_Z below #[Value.ref b] s) (F0 m 27 ls []) := by
  obtain ⟨hx, hb, hr, hml, hown, hts, hX, hbl, hlocks⟩ := id C8
  have hbA : ¬ (fun q : Nat => s.heap.size ≤ q) b := Nat.not_le.mpr hbl
  rcases Nat.lt_or_ge L 7 with hlt | hge
  · have e : L = 0 ∨ L = 1 ∨ L = 2 ∨ L = 3 ∨ L = 4 ∨ L = 5 ∨ L = 6 := by omega
    rcases e with rfl | rfl | rfl | rfl | rfl | rfl | rfl
    · refine lv_iload hx hb dL_law_27 (lv_at hl 0 rfl) ?_
      refine lv_aload_n hx hb dL_law_29 rfl (lv_at hl 4 rfl) ?_
      refine va_slen hx hb hX hbl hbA hS dL_law_30 ?_
      refine lv_topi (fun y ey => ?_)
      obtain rfl : y = 0 := ey.trans (by decide)
      refine lv_bipush (v := 7) hx hb dL_law_31 (by decide) ?_
      refine lv_isub hx hb dL_law_33 ?_
      refine lv_topi (fun y ey => ?_)
      obtain rfl : y = (-7) := ey.trans (by decide)
      refine lv_icmp_gt (tgt := 2348) hx hb dL_law_34 (by decide) (fun _ => ?_) (fun c9 => absurd (by decide) c9)
      refine lv_iconst (v := 1) hx hb dL_law_2348 (by decide) ?_
      refine va_forget (fun q hq => hS.2.2 q hq) ?_
      refine W.widen (k := 600002) (n := 7302232) (Nat.le_of_ble_eq_true rfl) (Nat.le_of_ble_eq_true rfl) ?_
      exact lw_ret hx hb hr hlocks dL_law_2349
    · refine lv_iload hx hb dL_law_27 (lv_at hl 0 rfl) ?_
      refine lv_aload_n hx hb dL_law_29 rfl (lv_at hl 4 rfl) ?_
      refine va_slen hx hb hX hbl hbA hS dL_law_30 ?_
      refine lv_topi (fun y ey => ?_)
      obtain rfl : y = 1 := ey.trans (by decide)
      refine lv_bipush (v := 7) hx hb dL_law_31 (by decide) ?_
      refine lv_isub hx hb dL_law_33 ?_
      refine lv_topi (fun y ey => ?_)
      obtain rfl : y = (-6) := ey.trans (by decide)
      refine lv_icmp_gt (tgt := 2348) hx hb dL_law_34 (by decide) (fun _ => ?_) (fun c9 => absurd (by decide) c9)
      refine lv_iconst (v := 1) hx hb dL_law_2348 (by decide) ?_
      refine va_forget (fun q hq => hS.2.2 q hq) ?_
      refine W.widen (k := 600002) (n := 7302232) (Nat.le_of_ble_eq_true rfl) (Nat.le_of_ble_eq_true rfl) ?_
      exact lw_ret hx hb hr hlocks dL_law_2349
    · refine lv_iload hx hb dL_law_27 (lv_at hl 0 rfl) ?_
      refine lv_aload_n hx hb dL_law_29 rfl (lv_at hl 4 rfl) ?_
      refine va_slen hx hb hX hbl hbA hS dL_law_30 ?_
      refine lv_topi (fun y ey => ?_)
      obtain rfl : y = 2 := ey.trans (by decide)
      refine lv_bipush (v := 7) hx hb dL_law_31 (by decide) ?_
      refine lv_isub hx hb dL_law_33 ?_
      refine lv_topi (fun y ey => ?_)
      obtain rfl : y = (-5) := ey.trans (by decide)
      refine lv_icmp_gt (tgt := 2348) hx hb dL_law_34 (by decide) (fun _ => ?_) (fun c9 => absurd (by decide) c9)
      refine lv_iconst (v := 1) hx hb dL_law_2348 (by decide) ?_
      refine va_forget (fun q hq => hS.2.2 q hq) ?_
      refine W.widen (k := 600002) (n := 7302232) (Nat.le_of_ble_eq_true rfl) (Nat.le_of_ble_eq_true rfl) ?_
      exact lw_ret hx hb hr hlocks dL_law_2349
    · refine lv_iload hx hb dL_law_27 (lv_at hl 0 rfl) ?_
      refine lv_aload_n hx hb dL_law_29 rfl (lv_at hl 4 rfl) ?_
      refine va_slen hx hb hX hbl hbA hS dL_law_30 ?_
      refine lv_topi (fun y ey => ?_)
      obtain rfl : y = 3 := ey.trans (by decide)
      refine lv_bipush (v := 7) hx hb dL_law_31 (by decide) ?_
      refine lv_isub hx hb dL_law_33 ?_
      refine lv_topi (fun y ey => ?_)
      obtain rfl : y = (-4) := ey.trans (by decide)
      refine lv_icmp_gt (tgt := 2348) hx hb dL_law_34 (by decide) (fun _ => ?_) (fun c9 => absurd (by decide) c9)
      refine lv_iconst (v := 1) hx hb dL_law_2348 (by decide) ?_
      refine va_forget (fun q hq => hS.2.2 q hq) ?_
      refine W.widen (k := 600002) (n := 7302232) (Nat.le_of_ble_eq_true rfl) (Nat.le_of_ble_eq_true rfl) ?_
      exact lw_ret hx hb hr hlocks dL_law_2349
    · refine lv_iload hx hb dL_law_27 (lv_at hl 0 rfl) ?_
      refine lv_aload_n hx hb dL_law_29 rfl (lv_at hl 4 rfl) ?_
      refine va_slen hx hb hX hbl hbA hS dL_law_30 ?_
      refine lv_topi (fun y ey => ?_)
      obtain rfl : y = 4 := ey.trans (by decide)
      refine lv_bipush (v := 7) hx hb dL_law_31 (by decide) ?_
      refine lv_isub hx hb dL_law_33 ?_
      refine lv_topi (fun y ey => ?_)
      obtain rfl : y = (-3) := ey.trans (by decide)
      refine lv_icmp_gt (tgt := 2348) hx hb dL_law_34 (by decide) (fun _ => ?_) (fun c9 => absurd (by decide) c9)
      refine lv_iconst (v := 1) hx hb dL_law_2348 (by decide) ?_
      refine va_forget (fun q hq => hS.2.2 q hq) ?_
      refine W.widen (k := 600002) (n := 7302232) (Nat.le_of_ble_eq_true rfl) (Nat.le_of_ble_eq_true rfl) ?_
      exact lw_ret hx hb hr hlocks dL_law_2349
    · refine lv_iload hx hb dL_law_27 (lv_at hl 0 rfl) ?_
      refine lv_aload_n hx hb dL_law_29 rfl (lv_at hl 4 rfl) ?_
      refine va_slen hx hb hX hbl hbA hS dL_law_30 ?_
      refine lv_topi (fun y ey => ?_)
      obtain rfl : y = 5 := ey.trans (by decide)
      refine lv_bipush (v := 7) hx hb dL_law_31 (by decide) ?_
      refine lv_isub hx hb dL_law_33 ?_
      refine lv_topi (fun y ey => ?_)
      obtain rfl : y = (-2) := ey.trans (by decide)
      refine lv_icmp_gt (tgt := 2348) hx hb dL_law_34 (by decide) (fun _ => ?_) (fun c9 => absurd (by decide) c9)
      refine lv_iconst (v := 1) hx hb dL_law_2348 (by decide) ?_
      refine va_forget (fun q hq => hS.2.2 q hq) ?_
      refine W.widen (k := 600002) (n := 7302232) (Nat.le_of_ble_eq_true rfl) (Nat.le_of_ble_eq_true rfl) ?_
      exact lw_ret hx hb hr hlocks dL_law_2349
    · refine lv_iload hx hb dL_law_27 (lv_at hl 0 rfl) ?_
      refine lv_aload_n hx hb dL_law_29 rfl (lv_at hl 4 rfl) ?_
      refine va_slen hx hb hX hbl hbA hS dL_law_30 ?_
      refine lv_topi (fun y ey => ?_)
      obtain rfl : y = 6 := ey.trans (by decide)
      refine lv_bipush (v := 7) hx hb dL_law_31 (by decide) ?_
      refine lv_isub hx hb dL_law_33 ?_
      refine lv_topi (fun y ey => ?_)
      obtain rfl : y = (-1) := ey.trans (by decide)
      refine lv_icmp_gt (tgt := 2348) hx hb dL_law_34 (by decide) (fun _ => ?_) (fun c9 => absurd (by decide) c9)
      refine lv_iconst (v := 1) hx hb dL_law_2348 (by decide) ?_
      refine va_forget (fun q hq => hS.2.2 q hq) ?_
      refine W.widen (k := 600002) (n := 7302232) (Nat.le_of_ble_eq_true rfl) (Nat.le_of_ble_eq_true rfl) ?_
      exact lw_ret hx hb hr hlocks dL_law_2349
  · obtain rfl : L = 7 := by omega
    have C9 : lx_At p s m meth c b xs := C8
    refine lv_iload hx hb dL_law_27 (lv_at hl 0 rfl) ?_
    refine lv_aload_n hx hb dL_law_29 rfl (lv_at hl 4 rfl) ?_
    refine va_slen hx hb hX hbl hbA hS dL_law_30 ?_
    refine lv_topi (fun y ey => ?_)
    obtain rfl : y = 7 := ey.trans (by decide)
    refine lv_bipush (v := 7) hx hb dL_law_31 (by decide) ?_
    refine lv_isub hx hb dL_law_33 ?_
    refine lv_topi (fun y ey => ?_)
    obtain rfl : y = 0 := ey.trans (by decide)
    refine lv_icmp_gt (tgt := 2348) hx hb dL_law_34 (by decide) (fun c9 => absurd c9 (by decide)) (fun _ => ?_)
    refine lv_aload_n hx hb dL_law_37 rfl (lv_at hl 4 rfl) ?_
    refine lv_iload hx hb dL_law_38 (lv_at hl 0 rfl) ?_
    refine va_sld hx hb hX hbl hbA hS (by unfold vp_in; decide) dL_law_40 ?_
    refine lv_bipush (v := 63) hx hb dL_law_41 (by decide) ?_
    refine lv_iand hx hb dL_law_43 ?_
    refine lv_topi (fun z ez => ?_)
    obtain ⟨j, hj, ej⟩ := pk_andE (xs (Int32.toNatClampNeg 0)) (m := 63) 6 (by decide)
    have hj : j < 64 := hj
    have e : j = 0 ∨ j = 1 ∨ j = 2 ∨ j = 3 ∨ j = 4 ∨ j = 5 ∨ j = 6 ∨ j = 7 ∨ j = 8 ∨ j = 9 ∨ j = 10 ∨ j = 11 ∨ j = 12 ∨ j = 13 ∨ j = 14 ∨ j = 15 ∨ j = 16 ∨ j = 17 ∨ j = 18 ∨ j = 19 ∨ j = 20 ∨ j = 21 ∨ j = 22 ∨ j = 23 ∨ j = 24 ∨ j = 25 ∨ j = 26 ∨ j = 27 ∨ j = 28 ∨ j = 29 ∨ j = 30 ∨ j = 31 ∨ j = 32 ∨ j = 33 ∨ j = 34 ∨ j = 35 ∨ j = 36 ∨ j = 37 ∨ j = 38 ∨ j = 39 ∨ j = 40 ∨ j = 41 ∨ j = 42 ∨ j = 43 ∨ j = 44 ∨ j = 45 ∨ j = 46 ∨ j = 47 ∨ j = 48 ∨ j = 49 ∨ j = 50 ∨ j = 51 ∨ j = 52 ∨ j = 53 ∨ j = 54 ∨ j = 55 ∨ j = 56 ∨ j = 57 ∨ j = 58 ∨ j = 59 ∨ j = 60 ∨ j = 61 ∨ j = 62 ∨ j = 63 := kz_64 j hj
    rcases e with rfl | rfl | rfl | rfl | rfl | rfl | rfl | rfl | rfl | rfl | rfl | rfl | rfl | rfl | rfl | rfl | rfl | rfl | rfl | rfl | rfl | rfl | rfl | rfl | rfl | rfl | rfl | rfl | rfl | rfl | rfl | rfl | rfl | rfl | rfl | rfl | rfl | rfl | rfl | rfl | rfl | rfl | rfl | rfl | rfl | rfl | rfl | rfl | rfl | rfl | rfl | rfl | rfl | rfl | rfl | rfl | rfl | rfl | rfl | rfl | rfl | rfl | rfl | rfl
    · obtain rfl : z = 0 := (ez.trans ej).trans (by decide)
      exact lx_sw0 hst C9 hG hK hP hD hS hl
    · obtain rfl : z = 1 := (ez.trans ej).trans (by decide)
      exact lx_sw1 hst C9 hG hK hP hD hS hl
    · obtain rfl : z = 2 := (ez.trans ej).trans (by decide)
      exact lx_sw2 hst C9 hG hK hP hD hS hl
    · obtain rfl : z = 3 := (ez.trans ej).trans (by decide)
      exact lx_sw3 hst C9 hG hK hP hD hS hl
    · obtain rfl : z = 4 := (ez.trans ej).trans (by decide)
      exact lx_sw4 hst C9 hG hK hP hD hS hl
    · obtain rfl : z = 5 := (ez.trans ej).trans (by decide)
      exact lx_sw5 hst C9 hG hK hP hD hS hl
    · obtain rfl : z = 6 := (ez.trans ej).trans (by decide)
      exact lx_sw6 hst C9 hG hK hP hD hS hl
    · obtain rfl : z = 7 := (ez.trans ej).trans (by decide)
      exact lx_sw7 hst C9 hG hK hP hD hS hl
    · obtain rfl : z = 8 := (ez.trans ej).trans (by decide)
      exact lx_sw8 hst C9 hG hK hP hD hS hl
    · obtain rfl : z = 9 := (ez.trans ej).trans (by decide)
      exact lx_sw9 hst C9 hG hK hP hD hS hl
    · obtain rfl : z = 10 := (ez.trans ej).trans (by decide)
      exact lx_sw10 hst C9 hG hK hP hD hS hl
    · obtain rfl : z = 11 := (ez.trans ej).trans (by decide)
      exact lx_sw11 hst C9 hG hK hP hD hS hl
    · obtain rfl : z = 12 := (ez.trans ej).trans (by decide)
      exact lx_sw12 hst C9 hG hK hP hD hS hl
    · obtain rfl : z = 13 := (ez.trans ej).trans (by decide)
      exact lx_sw13 hst C9 hG hK hP hD hS hl
    · obtain rfl : z = 14 := (ez.trans ej).trans (by decide)
      exact lx_sw14 hst C9 hG hK hP hD hS hl
    · obtain rfl : z = 15 := (ez.trans ej).trans (by decide)
      exact lx_sw15 hst C9 hG hK hP hD hS hl
    · obtain rfl : z = 16 := (ez.trans ej).trans (by decide)
      exact lx_sw16 hst C9 hG hK hP hD hS hl
    · obtain rfl : z = 17 := (ez.trans ej).trans (by decide)
      exact lx_sw17 hst C9 hG hK hP hD hS hl
    · obtain rfl : z = 18 := (ez.trans ej).trans (by decide)
      exact lx_sw18 hst C9 hG hK hP hD hS hl
    · obtain rfl : z = 19 := (ez.trans ej).trans (by decide)
      exact lx_sw19 hst C9 hG hK hP hD hS hl
    · obtain rfl : z = 20 := (ez.trans ej).trans (by decide)
      exact lx_sw20 hst C9 hG hK hP hD hS hl
    · obtain rfl : z = 21 := (ez.trans ej).trans (by decide)
      exact lx_sw21 hst C9 hG hK hP hD hS hl
    · obtain rfl : z = 22 := (ez.trans ej).trans (by decide)
      exact lx_sw22 hst C9 hG hK hP hD hS hl
    · obtain rfl : z = 23 := (ez.trans ej).trans (by decide)
      exact lx_sw23 hst C9 hG hK hP hD hS hl
    · obtain rfl : z = 24 := (ez.trans ej).trans (by decide)
      exact lx_sw24 hst C9 hG hK hP hD hS hl
    · obtain rfl : z = 25 := (ez.trans ej).trans (by decide)
      exact lx_sw25 hst C9 hG hK hP hD hS hl
    · obtain rfl : z = 26 := (ez.trans ej).trans (by decide)
      exact lx_sw26 hst C9 hG hK hP hD hS hl
    · obtain rfl : z = 27 := (ez.trans ej).trans (by decide)
      exact lx_sw27 hst C9 hG hK hP hD hS hl
    · obtain rfl : z = 28 := (ez.trans ej).trans (by decide)
      exact lx_sw28 hst C9 hG hK hP hD hS hl
    · obtain rfl : z = 29 := (ez.trans ej).trans (by decide)
      exact lx_sw29 hst C9 hG hK hP hD hS hl
    · obtain rfl : z = 30 := (ez.trans ej).trans (by decide)
      exact lx_sw30 hst C9 hG hK hP hD hS hl
    · obtain rfl : z = 31 := (ez.trans ej).trans (by decide)
      exact lx_sw31 hst C9 hG hK hP hD hS hl
    · obtain rfl : z = 32 := (ez.trans ej).trans (by decide)
      exact lx_sw32 hst C9 hG hK hP hD hS hl
    · obtain rfl : z = 33 := (ez.trans ej).trans (by decide)
      exact lx_sw33 hst C9 hG hK hP hD hS hl
    · obtain rfl : z = 34 := (ez.trans ej).trans (by decide)
      exact lx_sw34 hst C9 hG hK hP hD hS hl
    · obtain rfl : z = 35 := (ez.trans ej).trans (by decide)
      exact lx_sw35 hst C9 hG hK hP hD hS hl
    · obtain rfl : z = 36 := (ez.trans ej).trans (by decide)
      exact lx_sw36 hst C9 hG hK hP hD hS hl
    · obtain rfl : z = 37 := (ez.trans ej).trans (by decide)
      exact lx_sw37 hst C9 hG hK hP hD hS hl
    · obtain rfl : z = 38 := (ez.trans ej).trans (by decide)
      exact lx_sw38 hst C9 hG hK hP hD hS hl
    · obtain rfl : z = 39 := (ez.trans ej).trans (by decide)
      exact lx_sw39 hst C9 hG hK hP hD hS hl
    · obtain rfl : z = 40 := (ez.trans ej).trans (by decide)
      exact lx_sw40 hst C9 hG hK hP hD hS hl
    · obtain rfl : z = 41 := (ez.trans ej).trans (by decide)
      exact lx_sw41 hst C9 hG hK hP hD hS hl
    · obtain rfl : z = 42 := (ez.trans ej).trans (by decide)
      exact lx_sw42 hst C9 hG hK hP hD hS hl
    · obtain rfl : z = 43 := (ez.trans ej).trans (by decide)
      exact lx_sw43 hst C9 hG hK hP hD hS hl
    · obtain rfl : z = 44 := (ez.trans ej).trans (by decide)
      exact lx_sw44 hst C9 hG hK hP hD hS hl
    · obtain rfl : z = 45 := (ez.trans ej).trans (by decide)
      exact lx_sw45 hst C9 hG hK hP hD hS hl
    · obtain rfl : z = 46 := (ez.trans ej).trans (by decide)
      exact lx_sw46 hst C9 hG hK hP hD hS hl
    · obtain rfl : z = 47 := (ez.trans ej).trans (by decide)
      exact lx_sw47 hst C9 hG hK hP hD hS hl
    · obtain rfl : z = 48 := (ez.trans ej).trans (by decide)
      exact lx_sw48 hst C9 hG hK hP hD hS hl
    · obtain rfl : z = 49 := (ez.trans ej).trans (by decide)
      exact lx_sw49 hst C9 hG hK hP hD hS hl
    · obtain rfl : z = 50 := (ez.trans ej).trans (by decide)
      exact lx_sw50 hst C9 hG hK hP hD hS hl
    · obtain rfl : z = 51 := (ez.trans ej).trans (by decide)
      exact lx_sw51 hst C9 hG hK hP hD hS hl
    · obtain rfl : z = 52 := (ez.trans ej).trans (by decide)
      exact lx_sw52 hst C9 hG hK hP hD hS hl
    · obtain rfl : z = 53 := (ez.trans ej).trans (by decide)
      exact lx_sw53 hst C9 hG hK hP hD hS hl
    · obtain rfl : z = 54 := (ez.trans ej).trans (by decide)
      exact lx_sw54 hst C9 hG hK hP hD hS hl
    · obtain rfl : z = 55 := (ez.trans ej).trans (by decide)
      exact lx_sw55 hst C9 hG hK hP hD hS hl
    · obtain rfl : z = 56 := (ez.trans ej).trans (by decide)
      exact lx_sw56 hst C9 hG hK hP hD hS hl
    · obtain rfl : z = 57 := (ez.trans ej).trans (by decide)
      exact lx_sw57 hst C9 hG hK hP hD hS hl
    · obtain rfl : z = 58 := (ez.trans ej).trans (by decide)
      exact lx_sw58 hst C9 hG hK hP hD hS hl
    · obtain rfl : z = 59 := (ez.trans ej).trans (by decide)
      exact lx_sw59 hst C9 hG hK hP hD hS hl
    · obtain rfl : z = 60 := (ez.trans ej).trans (by decide)
      exact lx_sw60 hst C9 hG hK hP hD hS hl
    · obtain rfl : z = 61 := (ez.trans ej).trans (by decide)
      exact lx_sw61 hst C9 hG hK hP hD hS hl
    · obtain rfl : z = 62 := (ez.trans ej).trans (by decide)
      exact lx_sw62 hst C9 hG hK hP hD hS hl
    · obtain rfl : z = 63 := (ez.trans ej).trans (by decide)
      exact lx_sw63 hst C9 hG hK hP hD hS hl
