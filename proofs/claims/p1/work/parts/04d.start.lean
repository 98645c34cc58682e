theorem gv_of {args : Array Value} {s : State} (hgv : (Jvm.Cond.and given_1 narrow_1).before args s = true) (hts : ∀ w ∈ lw_tbl, w.before args s = true) {A : Nat → Prop} (hA : ∀ a : Nat, a < s.heap.size → ¬ A a) : ∃ ge5 gea gv5 gva gde gic gi0 : Nat, gv ge5 gea gv5 gva gde gic gi0 A s s.heap := by
  obtain ⟨k5, u5, hS5, hE5⟩ := vk_Sof (args := args) (s := s) (N := 1) (tm := fun _ => (.string RX5 9)) (len := [0]) (byt := [[]]) (A := A) (fun i hi => by have e : i = 0 := (by omega); subst e; decide) (fun i hi => (gq_585 hgv)) (fun i hi => (gq_586 hgv)) (fun i hi => (gq_587 hgv)) (fun i hi => by have e : i = 0 := (by omega); subst e; exact (gq_588 hgv)) (fun i hi j hj => absurd hj (by have e : i = 0 := (by omega); subst e; exact Nat.not_lt_zero j)) (fun i j hi hj hij => absurd (by omega : i = j) hij) hA
  obtain ⟨o5, c5, v5, t5⟩ := hS5.1 0 (by omega)
  have e5 := hE5 0 (by omega)
  obtain ⟨ka, ua, hSa, hEa⟩ := vk_Sof (args := args) (s := s) (N := 1) (tm := fun _ => (.string RX5 119)) (len := [4]) (byt := [[97, 98, 99, 100]]) (A := A) (fun i hi => by have e : i = 0 := (by omega); subst e; decide) (fun i hi => (gq_601 hgv)) (fun i hi => (gq_602 hgv)) (fun i hi => (gq_603 hgv)) (fun i hi => by have e : i = 0 := (by omega); subst e; exact (gq_604 hgv)) (fun i hi j hj => by
    obtain rfl : i = 0 := by omega
    have hj : j < 4 := hj
    have e : j = 0 ∨ j = 1 ∨ j = 2 ∨ j = 3 := by omega
    rcases e with rfl | rfl | rfl | rfl
    · exact (gq_605 hgv)
    · exact (gq_606 hgv)
    · exact (gq_607 hgv)
    · exact (gq_608 hgv)) (fun i j hi hj hij => absurd (by omega : i = j) hij) hA
  obtain ⟨oa, ca, va, ta⟩ := hSa.1 0 (by omega)
  have ea := hEa 0 (by omega)
  have e3 : (Term.string RX3 195).eval args s none [] s = some (.ref (k5 0)) := va_eqI (by have h := (gq_589 hgv); simpa [Cond.before, Cond.holds] using h) e5
  obtain ⟨de, hde, tde⟩ := va_Tof (args := args) (s := s) (tm := (.static "java/util/ArrayList" "DEFAULTCAPACITY_EMPTY_ELEMENTDATA" "[Ljava/lang/Object;")) (ty := .object "java/lang/Object") (N := 0) (f := fun _ => .null) (A := A) (by decide) (gq_218 hgv) (va_eqt (gq_220 hgv)) (fun j hj => absurd hj (Nat.not_lt_zero j)) hA
  obtain ⟨ad, hC, hCe⟩ := vb_Cof (args := args) (s := s) (A := A) (st := (.static "java/lang/Integer$IntegerCache" "cache" "[Ljava/lang/Integer;")) rfl (va_eqt (gq_224 hgv)) (gq_all hgv) hA
  obtain ⟨ic, hic, tic⟩ := va_Tof (args := args) (s := s) (tm := (.static "java/lang/Integer$IntegerCache" "cache" "[Ljava/lang/Integer;")) (ty := .object "java/lang/Integer") (N := 256) (f := fun j => .ref (ad j)) (A := A) (by decide) (gq_223 hgv) (va_eqt (gq_224 hgv)) (fun j hj => hCe j hj) hA
  refine ⟨k5 0, ka 0, u5 0, ua 0, de, ic, ad 128, ⟨va_AO.of (gt_81 hts),
    va_AO.of (gt_1108 hts),
    va_AO.of (gt_1336 hts),
    va_Nw.of rfl (gt_90 hts),
    va_Nw.of rfl (gt_144 hts),
    va_Nw.of rfl (gt_174 hts),
    va_Nw.of rfl (gt_787 hts),
    va_Nw.of rfl (gt_795 hts),
    va_Nw.of rfl (gt_799 hts),
    va_Nw.of rfl (gt_800 hts),
    va_Nw.of rfl (gt_821 hts),
    va_Nw.of rfl (gt_468 hts),
    va_Nw.of rfl (gt_851 hts),
    va_Nw.of rfl (gt_1619 hts),
    va_Nw.of rfl (gt_1618 hts),
    va_Nw.of rfl (gt_470 hts),
    va_Nw.of rfl (gt_472 hts),
    va_Nw.of rfl (gt_474 hts),
    va_Nc.of (gq_233 hgv),
    va_Nc.of (gq_234 hgv),
    va_Nc.of (gq_246 hgv)⟩, ⟨vk_R.of (gt_275 hts) e3,
    vk_R.of (gt_1109 hts) e5,
    vk_R.of (gt_1172 hts) ea,
    gv_ref (gt_828 hts) (gq_308 hgv),
    gv_ref (gt_967 hts) (gq_429 hgv),
    gv_ref (gt_889 hts) (gq_381 hgv),
    gv_ref (gt_839 hts) (gq_326 hgv),
    gv_ref (gt_1011 hts) (gq_452 hgv),
    gv_ref (gt_1025 hts) (gq_475 hgv),
    gv_ref (gt_1091 hts) (gq_511 hgv),
    gv_ref (gt_1100 hts) (gq_537 hgv)⟩, ⟨o5,
    c5,
    v5,
    t5,
    oa,
    ca,
    va,
    ta,
    va_Zof (gt_313 hts) (gt_61 hts) (va_eqt (gq_4 hgv)) hA,
    va_Zof (gt_1123 hts) (gt_50 hts) hde hA,
    tde,
    va_Zqof (gt_404 hts) (gt_66 hts) (gq_5 hgv) hA,
    vx_Zqof (gt_493 hts) (gt_52 hts) (gq_9 hgv) hA,
    vx_Zqof (gt_495 hts) (gt_52 hts) (gq_10 hgv) hA,
    va_Zof (gt_1279 hts) (gt_70 hts) (va_eqt (gq_221 hgv)) hA,
    va_Zof (gt_1281 hts) (gt_70 hts) hic hA,
    ⟨_, rfl, tic⟩,
    hC.1 128 (by decide),
    (by have h : va_OF "java/lang/Integer" "value" "I" (.int (vb_c 128)) (ad 128) A s s.heap := hC.2 128 (by decide); rw [show vb_c 128 = 0 from by decide] at h; exact h)⟩⟩
