abbrev rm_X0_init : Room := { frames := 1, cells := 1, slots := 280, locals := 12 }
set_option maxRecDepth 100000 in
set_option maxHeartbeats 4000000 in
theorem c_X0_init (l : Launch) (D : va_G) (cI cZ : ClassId) (h : Nat) : CtV l yX0_init wsX0_init rm_X0_init D cI cZ [.ref h] [(h, .inr (0, [.null, .int (nI 0), .int (nI 0)]))] (fun (b : Nat) => True) (fun (b : Nat) => [(h, .inr (0, [.ref b, .int (nI 0), .int (nI 0)])), (b, .inl (cI, 280, .inl (fun _ => nI 0)))]) 1 280 := by
  refine g_startV (ret := none) (own := RX0) (lv0 := [(0, .ref h)]) (by decide) rfl rfl (Nat.le_of_ble_eq_true rfl) rfl ?_
  intro p e s m args below meth cd A Q hin hr hQ hC
  have hcw0 : ∀ w ∈ wsX00, w ∈ wsX0_init := fun _ h => List.mem_cons_of_mem _ (List.mem_append_right _ h)
  have w1 := hC.1.2.2.2.2 (.methodLink "PluckBroker$Acts" 3 ⟨"java/lang/Object", "<init>", "()V"⟩) (List.mem_of_getElem? (i := 1) rfl)
  have w2 := hC.1.2.2.2.2 (.instanceMethod ⟨"java/lang/Object", "<init>", "()V"⟩) (List.mem_of_getElem? (i := 2) rfl)
  have w3 := hC.1.2.2.2.2 (.code ⟨"java/lang/Object", "<init>", "()V"⟩ ⟨#[0xb1]⟩ 1 none) (List.mem_of_getElem? (i := 3) rfl)
  have w4 := hC.1.2.2.2.2 (.arrayClass .int) (List.mem_of_getElem? (i := 4) rfl)
  have w5 := hC.1.2.2.2.2 (.fieldLink "PluckBroker$Acts" 11 "PluckBroker$Acts" "states" "[I") (List.mem_of_getElem? (i := 5) rfl)
  refine g_aload_n hC 0 dX0_init_0 rfl rfl ?_
  refine g_objInit hC w1 w2 w3 dX0_init_1 ⟨Nat.le_of_ble_eq_true rfl, Nat.le_of_ble_eq_true rfl⟩ ?_
  refine g_aload_n hC 0 dX0_init_4 rfl rfl ?_
  refine g_sipush (v := nI 280) hC dX0_init_5 (by decide +kernel) ?_
  refine g_newa (atype := .int) (ty := .int) (f := fun _ => nI 0) hC 0 rfl rfl (fun _ h => by cases h) w4 280 rfl (Nat.le_of_ble_eq_true rfl) (newI _) (Nat.le_of_ble_eq_true rfl) (Nat.le_of_ble_eq_true rfl) (Nat.le_of_ble_eq_true rfl) dX0_init_8 (fun q1 => ?_)
  refine g_ws (ws2 := [(h, .inr (0, [.null, .int (nI 0), .int (nI 0)])), (q1, .inl (cI, 280, .inl (fun _ => nI 0)))]) rfl ?_
  refine g_widen (k2 := 1) (n2 := 280) (Nat.le_of_ble_eq_true rfl) (Nat.le_of_ble_eq_true rfl) ?_
  refine g_putF (C := RX0) (T := TX0) (N := 3) (ci := 0) (v := .ref q1) hC hcw0 tyX0 tyX0_ok nmX0 0 rfl rfl 0 (by decide) w5 (fun _ h => h) rfl (hin rfl) rfl (tyX0_ok 0 (by decide)) rfl rfl (Nat.le_of_ble_eq_true rfl) [(h, .inr (0, [.ref q1, .int (nI 0), .int (nI 0)])), (q1, .inl (cI, 280, .inl (fun _ => nI 0)))] rfl dX0_init_10 ?_
  subst hQ
  refine g_vret hC (q1) hr ?_ rfl dX0_init_13
  trivial


abbrev rm_X1_init : Room := { frames := 1, cells := 2, slots := 12, locals := 12 }
set_option maxRecDepth 100000 in
set_option maxHeartbeats 4000000 in
theorem c_X1_init (l : Launch) (D : va_G) (cI cZ : ClassId) (h : Nat) : CtV l yX1_init wsX1_init rm_X1_init D cI cZ [.ref h] [(h, .inr (1, [.null, .null, .int (nI 0)]))] (fun (z : Nat × Nat) => match z with | (b, b2) => True) (fun (z : Nat × Nat) => match z with | (b, b2) => [(h, .inr (1, [.ref b, .ref b2, .int (nI 0)])), (b, .inl (cI, 6, .inl (fun _ => nI 0))), (b2, .inl (cI, 6, .inl (fun _ => nI 0)))]) 2 12 := by
  refine g_startV (ret := none) (own := RX1) (lv0 := [(0, .ref h)]) (by decide) rfl rfl (Nat.le_of_ble_eq_true rfl) rfl ?_
  intro p e s m args below meth cd A Q hin hr hQ hC
  have hcw1 : ∀ w ∈ wsX10, w ∈ wsX1_init := fun _ h => List.mem_cons_of_mem _ (List.mem_append_right _ h)
  have w1 := hC.1.2.2.2.2 (.methodLink "PluckBroker$Asked" 3 ⟨"java/lang/Object", "<init>", "()V"⟩) (List.mem_of_getElem? (i := 1) rfl)
  have w2 := hC.1.2.2.2.2 (.instanceMethod ⟨"java/lang/Object", "<init>", "()V"⟩) (List.mem_of_getElem? (i := 2) rfl)
  have w3 := hC.1.2.2.2.2 (.code ⟨"java/lang/Object", "<init>", "()V"⟩ ⟨#[0xb1]⟩ 1 none) (List.mem_of_getElem? (i := 3) rfl)
  have w4 := hC.1.2.2.2.2 (.arrayClass .int) (List.mem_of_getElem? (i := 4) rfl)
  have w5 := hC.1.2.2.2.2 (.fieldLink "PluckBroker$Asked" 9 "PluckBroker$Asked" "days" "[I") (List.mem_of_getElem? (i := 5) rfl)
  have w6 := hC.1.2.2.2.2 (.fieldLink "PluckBroker$Asked" 15 "PluckBroker$Asked" "dues" "[I") (List.mem_of_getElem? (i := 6) rfl)
  refine g_aload_n hC 0 dX1_init_0 rfl rfl ?_
  refine g_objInit hC w1 w2 w3 dX1_init_1 ⟨Nat.le_of_ble_eq_true rfl, Nat.le_of_ble_eq_true rfl⟩ ?_
  refine g_aload_n hC 0 dX1_init_4 rfl rfl ?_
  refine g_bipush (v := nI 6) hC dX1_init_5 (by decide +kernel) ?_
  refine g_newa (atype := .int) (ty := .int) (f := fun _ => nI 0) hC 0 rfl rfl (fun _ h => by cases h) w4 6 rfl (Nat.le_of_ble_eq_true rfl) (newI _) (Nat.le_of_ble_eq_true rfl) (Nat.le_of_ble_eq_true rfl) (Nat.le_of_ble_eq_true rfl) dX1_init_7 (fun q1 => ?_)
  refine g_ws (ws2 := [(h, .inr (1, [.null, .null, .int (nI 0)])), (q1, .inl (cI, 6, .inl (fun _ => nI 0)))]) rfl ?_
  refine g_widen (k2 := 1) (n2 := 6) (Nat.le_of_ble_eq_true rfl) (Nat.le_of_ble_eq_true rfl) ?_
  refine g_putF (C := RX1) (T := TX1) (N := 3) (ci := 1) (v := .ref q1) hC hcw1 tyX1 tyX1_ok nmX1 0 rfl rfl 0 (by decide) w5 (fun _ h => h) rfl (hin rfl) rfl (tyX1_ok 0 (by decide)) rfl rfl (Nat.le_of_ble_eq_true rfl) [(h, .inr (1, [.ref q1, .null, .int (nI 0)])), (q1, .inl (cI, 6, .inl (fun _ => nI 0)))] rfl dX1_init_9 ?_
  refine g_aload_n hC 0 dX1_init_12 rfl rfl ?_
  refine g_bipush (v := nI 6) hC dX1_init_13 (by decide +kernel) ?_
  refine g_newa (atype := .int) (ty := .int) (f := fun _ => nI 0) hC 0 rfl rfl (fun _ h => by cases h) w4 6 rfl (Nat.le_of_ble_eq_true rfl) (newI _) (Nat.le_of_ble_eq_true rfl) (Nat.le_of_ble_eq_true rfl) (Nat.le_of_ble_eq_true rfl) dX1_init_15 (fun q2 => ?_)
  refine g_ws (ws2 := [(h, .inr (1, [.ref q1, .null, .int (nI 0)])), (q1, .inl (cI, 6, .inl (fun _ => nI 0))), (q2, .inl (cI, 6, .inl (fun _ => nI 0)))]) rfl ?_
  refine g_widen (k2 := 2) (n2 := 12) (Nat.le_of_ble_eq_true rfl) (Nat.le_of_ble_eq_true rfl) ?_
  refine g_putF (C := RX1) (T := TX1) (N := 3) (ci := 1) (v := .ref q2) hC hcw1 tyX1 tyX1_ok nmX1 0 rfl rfl 1 (by decide) w6 (fun _ h => h) rfl (hin rfl) rfl (tyX1_ok 1 (by decide)) rfl rfl (Nat.le_of_ble_eq_true rfl) [(h, .inr (1, [.ref q1, .ref q2, .int (nI 0)])), (q1, .inl (cI, 6, .inl (fun _ => nI 0))), (q2, .inl (cI, 6, .inl (fun _ => nI 0)))] rfl dX1_init_17 ?_
  subst hQ
  refine g_vret hC (q1, q2) hr ?_ rfl dX1_init_20
  trivial


abbrev rm_X2_init : Room := { frames := 1, cells := 7, slots := 33, locals := 12 }
set_option maxRecDepth 100000 in
set_option maxHeartbeats 4000000 in
theorem c_X2_init (l : Launch) (D : va_G) (cI cZ : ClassId) (h : Nat) : CtV l yX2_init wsX2_init rm_X2_init D cI cZ [.ref h] [(h, .inr (2, [.null, .null, .null, .null, .null, .null, .null, .int (nI 0), .int (nI 0), .int (nI 0), .int (nI 0)]))] (fun (r : (Nat → Nat)) => True) (fun (r : (Nat → Nat)) => [(h, o2 r (nI 0) 0 0 0), (r 0, .inl (cI, 3, .inl (fun _ => nI 0))), (r 1, .inl (cI, 5, .inl (fun _ => nI 0))), (r 2, .inl (cI, 5, .inl (fun _ => nI 0))), (r 3, .inl (cI, 5, .inl (fun _ => nI 0))), (r 4, .inl (cI, 5, .inl (fun _ => nI 0))), (r 5, .inl (cI, 5, .inl (fun _ => nI 0))), (r 6, .inl (cI, 5, .inl (fun _ => nI 0)))]) 7 33 := by
  refine g_startV (ret := none) (own := RX2) (lv0 := [(0, .ref h)]) (by decide) rfl rfl (Nat.le_of_ble_eq_true rfl) rfl ?_
  intro p e s m args below meth cd A Q hin hr hQ hC
  have hcw2 : ∀ w ∈ wsX20, w ∈ wsX2_init := fun _ h => List.mem_cons_of_mem _ (List.mem_append_right _ h)
  have w1 := hC.1.2.2.2.2 (.methodLink "PluckBroker$Plan" 3 ⟨"java/lang/Object", "<init>", "()V"⟩) (List.mem_of_getElem? (i := 1) rfl)
  have w2 := hC.1.2.2.2.2 (.instanceMethod ⟨"java/lang/Object", "<init>", "()V"⟩) (List.mem_of_getElem? (i := 2) rfl)
  have w3 := hC.1.2.2.2.2 (.code ⟨"java/lang/Object", "<init>", "()V"⟩ ⟨#[0xb1]⟩ 1 none) (List.mem_of_getElem? (i := 3) rfl)
  have w4 := hC.1.2.2.2.2 (.arrayClass .int) (List.mem_of_getElem? (i := 4) rfl)
  have w5 := hC.1.2.2.2.2 (.fieldLink "PluckBroker$Plan" 9 "PluckBroker$Plan" "purses" "[I") (List.mem_of_getElem? (i := 5) rfl)
  have w6 := hC.1.2.2.2.2 (.fieldLink "PluckBroker$Plan" 15 "PluckBroker$Plan" "owners" "[I") (List.mem_of_getElem? (i := 6) rfl)
  have w7 := hC.1.2.2.2.2 (.fieldLink "PluckBroker$Plan" 18 "PluckBroker$Plan" "worths" "[I") (List.mem_of_getElem? (i := 7) rfl)
  have w8 := hC.1.2.2.2.2 (.fieldLink "PluckBroker$Plan" 21 "PluckBroker$Plan" "kinds" "[I") (List.mem_of_getElem? (i := 8) rfl)
  have w9 := hC.1.2.2.2.2 (.fieldLink "PluckBroker$Plan" 24 "PluckBroker$Plan" "wanted" "[I") (List.mem_of_getElem? (i := 9) rfl)
  have w10 := hC.1.2.2.2.2 (.fieldLink "PluckBroker$Plan" 27 "PluckBroker$Plan" "onDays" "[I") (List.mem_of_getElem? (i := 10) rfl)
  have w11 := hC.1.2.2.2.2 (.fieldLink "PluckBroker$Plan" 30 "PluckBroker$Plan" "rewards" "[I") (List.mem_of_getElem? (i := 11) rfl)
  refine g_aload_n hC 0 dX2_init_0 rfl rfl ?_
  refine g_objInit hC w1 w2 w3 dX2_init_1 ⟨Nat.le_of_ble_eq_true rfl, Nat.le_of_ble_eq_true rfl⟩ ?_
  refine g_aload_n hC 0 dX2_init_4 rfl rfl ?_
  refine g_iconst (v := nI 3) hC dX2_init_5 rfl ?_
  refine g_newa (atype := .int) (ty := .int) (f := fun _ => nI 0) hC 0 rfl rfl (fun _ h => by cases h) w4 3 rfl (Nat.le_of_ble_eq_true rfl) (newI _) (Nat.le_of_ble_eq_true rfl) (Nat.le_of_ble_eq_true rfl) (Nat.le_of_ble_eq_true rfl) dX2_init_6 (fun q1 => ?_)
  refine g_ws (ws2 := [(h, .inr (2, [.null, .null, .null, .null, .null, .null, .null, .int (nI 0), .int (nI 0), .int (nI 0), .int (nI 0)])), (q1, .inl (cI, 3, .inl (fun _ => nI 0)))]) rfl ?_
  refine g_widen (k2 := 1) (n2 := 3) (Nat.le_of_ble_eq_true rfl) (Nat.le_of_ble_eq_true rfl) ?_
  refine g_putF (C := RX2) (T := TX2) (N := 11) (ci := 2) (v := .ref q1) hC hcw2 tyX2 tyX2_ok nmX2 0 rfl rfl 0 (by decide) w5 (fun _ h => h) rfl (hin rfl) rfl (tyX2_ok 0 (by decide)) rfl rfl (Nat.le_of_ble_eq_true rfl) [(h, .inr (2, [.ref q1, .null, .null, .null, .null, .null, .null, .int (nI 0), .int (nI 0), .int (nI 0), .int (nI 0)])), (q1, .inl (cI, 3, .inl (fun _ => nI 0)))] rfl dX2_init_8 ?_
  refine g_aload_n hC 0 dX2_init_11 rfl rfl ?_
  refine g_iconst (v := nI 5) hC dX2_init_12 rfl ?_
  refine g_newa (atype := .int) (ty := .int) (f := fun _ => nI 0) hC 0 rfl rfl (fun _ h => by cases h) w4 5 rfl (Nat.le_of_ble_eq_true rfl) (newI _) (Nat.le_of_ble_eq_true rfl) (Nat.le_of_ble_eq_true rfl) (Nat.le_of_ble_eq_true rfl) dX2_init_13 (fun q2 => ?_)
  refine g_ws (ws2 := [(h, .inr (2, [.ref q1, .null, .null, .null, .null, .null, .null, .int (nI 0), .int (nI 0), .int (nI 0), .int (nI 0)])), (q1, .inl (cI, 3, .inl (fun _ => nI 0))), (q2, .inl (cI, 5, .inl (fun _ => nI 0)))]) rfl ?_
  refine g_widen (k2 := 2) (n2 := 8) (Nat.le_of_ble_eq_true rfl) (Nat.le_of_ble_eq_true rfl) ?_
  refine g_putF (C := RX2) (T := TX2) (N := 11) (ci := 2) (v := .ref q2) hC hcw2 tyX2 tyX2_ok nmX2 0 rfl rfl 1 (by decide) w6 (fun _ h => h) rfl (hin rfl) rfl (tyX2_ok 1 (by decide)) rfl rfl (Nat.le_of_ble_eq_true rfl) [(h, .inr (2, [.ref q1, .ref q2, .null, .null, .null, .null, .null, .int (nI 0), .int (nI 0), .int (nI 0), .int (nI 0)])), (q1, .inl (cI, 3, .inl (fun _ => nI 0))), (q2, .inl (cI, 5, .inl (fun _ => nI 0)))] rfl dX2_init_15 ?_
  refine g_aload_n hC 0 dX2_init_18 rfl rfl ?_
  refine g_iconst (v := nI 5) hC dX2_init_19 rfl ?_
  refine g_newa (atype := .int) (ty := .int) (f := fun _ => nI 0) hC 0 rfl rfl (fun _ h => by cases h) w4 5 rfl (Nat.le_of_ble_eq_true rfl) (newI _) (Nat.le_of_ble_eq_true rfl) (Nat.le_of_ble_eq_true rfl) (Nat.le_of_ble_eq_true rfl) dX2_init_20 (fun q3 => ?_)
  refine g_ws (ws2 := [(h, .inr (2, [.ref q1, .ref q2, .null, .null, .null, .null, .null, .int (nI 0), .int (nI 0), .int (nI 0), .int (nI 0)])), (q1, .inl (cI, 3, .inl (fun _ => nI 0))), (q2, .inl (cI, 5, .inl (fun _ => nI 0))), (q3, .inl (cI, 5, .inl (fun _ => nI 0)))]) rfl ?_
  refine g_widen (k2 := 3) (n2 := 13) (Nat.le_of_ble_eq_true rfl) (Nat.le_of_ble_eq_true rfl) ?_
  refine g_putF (C := RX2) (T := TX2) (N := 11) (ci := 2) (v := .ref q3) hC hcw2 tyX2 tyX2_ok nmX2 0 rfl rfl 2 (by decide) w7 (fun _ h => h) rfl (hin rfl) rfl (tyX2_ok 2 (by decide)) rfl rfl (Nat.le_of_ble_eq_true rfl) [(h, .inr (2, [.ref q1, .ref q2, .ref q3, .null, .null, .null, .null, .int (nI 0), .int (nI 0), .int (nI 0), .int (nI 0)])), (q1, .inl (cI, 3, .inl (fun _ => nI 0))), (q2, .inl (cI, 5, .inl (fun _ => nI 0))), (q3, .inl (cI, 5, .inl (fun _ => nI 0)))] rfl dX2_init_22 ?_
  refine g_aload_n hC 0 dX2_init_25 rfl rfl ?_
  refine g_iconst (v := nI 5) hC dX2_init_26 rfl ?_
  refine g_newa (atype := .int) (ty := .int) (f := fun _ => nI 0) hC 0 rfl rfl (fun _ h => by cases h) w4 5 rfl (Nat.le_of_ble_eq_true rfl) (newI _) (Nat.le_of_ble_eq_true rfl) (Nat.le_of_ble_eq_true rfl) (Nat.le_of_ble_eq_true rfl) dX2_init_27 (fun q4 => ?_)
  refine g_ws (ws2 := [(h, .inr (2, [.ref q1, .ref q2, .ref q3, .null, .null, .null, .null, .int (nI 0), .int (nI 0), .int (nI 0), .int (nI 0)])), (q1, .inl (cI, 3, .inl (fun _ => nI 0))), (q2, .inl (cI, 5, .inl (fun _ => nI 0))), (q3, .inl (cI, 5, .inl (fun _ => nI 0))), (q4, .inl (cI, 5, .inl (fun _ => nI 0)))]) rfl ?_
  refine g_widen (k2 := 4) (n2 := 18) (Nat.le_of_ble_eq_true rfl) (Nat.le_of_ble_eq_true rfl) ?_
  refine g_putF (C := RX2) (T := TX2) (N := 11) (ci := 2) (v := .ref q4) hC hcw2 tyX2 tyX2_ok nmX2 0 rfl rfl 3 (by decide) w8 (fun _ h => h) rfl (hin rfl) rfl (tyX2_ok 3 (by decide)) rfl rfl (Nat.le_of_ble_eq_true rfl) [(h, .inr (2, [.ref q1, .ref q2, .ref q3, .ref q4, .null, .null, .null, .int (nI 0), .int (nI 0), .int (nI 0), .int (nI 0)])), (q1, .inl (cI, 3, .inl (fun _ => nI 0))), (q2, .inl (cI, 5, .inl (fun _ => nI 0))), (q3, .inl (cI, 5, .inl (fun _ => nI 0))), (q4, .inl (cI, 5, .inl (fun _ => nI 0)))] rfl dX2_init_29 ?_
  refine g_aload_n hC 0 dX2_init_32 rfl rfl ?_
  refine g_iconst (v := nI 5) hC dX2_init_33 rfl ?_
  refine g_newa (atype := .int) (ty := .int) (f := fun _ => nI 0) hC 0 rfl rfl (fun _ h => by cases h) w4 5 rfl (Nat.le_of_ble_eq_true rfl) (newI _) (Nat.le_of_ble_eq_true rfl) (Nat.le_of_ble_eq_true rfl) (Nat.le_of_ble_eq_true rfl) dX2_init_34 (fun q5 => ?_)
  refine g_ws (ws2 := [(h, .inr (2, [.ref q1, .ref q2, .ref q3, .ref q4, .null, .null, .null, .int (nI 0), .int (nI 0), .int (nI 0), .int (nI 0)])), (q1, .inl (cI, 3, .inl (fun _ => nI 0))), (q2, .inl (cI, 5, .inl (fun _ => nI 0))), (q3, .inl (cI, 5, .inl (fun _ => nI 0))), (q4, .inl (cI, 5, .inl (fun _ => nI 0))), (q5, .inl (cI, 5, .inl (fun _ => nI 0)))]) rfl ?_
  refine g_widen (k2 := 5) (n2 := 23) (Nat.le_of_ble_eq_true rfl) (Nat.le_of_ble_eq_true rfl) ?_
  refine g_putF (C := RX2) (T := TX2) (N := 11) (ci := 2) (v := .ref q5) hC hcw2 tyX2 tyX2_ok nmX2 0 rfl rfl 4 (by decide) w9 (fun _ h => h) rfl (hin rfl) rfl (tyX2_ok 4 (by decide)) rfl rfl (Nat.le_of_ble_eq_true rfl) [(h, .inr (2, [.ref q1, .ref q2, .ref q3, .ref q4, .ref q5, .null, .null, .int (nI 0), .int (nI 0), .int (nI 0), .int (nI 0)])), (q1, .inl (cI, 3, .inl (fun _ => nI 0))), (q2, .inl (cI, 5, .inl (fun _ => nI 0))), (q3, .inl (cI, 5, .inl (fun _ => nI 0))), (q4, .inl (cI, 5, .inl (fun _ => nI 0))), (q5, .inl (cI, 5, .inl (fun _ => nI 0)))] rfl dX2_init_36 ?_
  refine g_aload_n hC 0 dX2_init_39 rfl rfl ?_
  refine g_iconst (v := nI 5) hC dX2_init_40 rfl ?_
  refine g_newa (atype := .int) (ty := .int) (f := fun _ => nI 0) hC 0 rfl rfl (fun _ h => by cases h) w4 5 rfl (Nat.le_of_ble_eq_true rfl) (newI _) (Nat.le_of_ble_eq_true rfl) (Nat.le_of_ble_eq_true rfl) (Nat.le_of_ble_eq_true rfl) dX2_init_41 (fun q6 => ?_)
  refine g_ws (ws2 := [(h, .inr (2, [.ref q1, .ref q2, .ref q3, .ref q4, .ref q5, .null, .null, .int (nI 0), .int (nI 0), .int (nI 0), .int (nI 0)])), (q1, .inl (cI, 3, .inl (fun _ => nI 0))), (q2, .inl (cI, 5, .inl (fun _ => nI 0))), (q3, .inl (cI, 5, .inl (fun _ => nI 0))), (q4, .inl (cI, 5, .inl (fun _ => nI 0))), (q5, .inl (cI, 5, .inl (fun _ => nI 0))), (q6, .inl (cI, 5, .inl (fun _ => nI 0)))]) rfl ?_
  refine g_widen (k2 := 6) (n2 := 28) (Nat.le_of_ble_eq_true rfl) (Nat.le_of_ble_eq_true rfl) ?_
  refine g_putF (C := RX2) (T := TX2) (N := 11) (ci := 2) (v := .ref q6) hC hcw2 tyX2 tyX2_ok nmX2 0 rfl rfl 5 (by decide) w10 (fun _ h => h) rfl (hin rfl) rfl (tyX2_ok 5 (by decide)) rfl rfl (Nat.le_of_ble_eq_true rfl) [(h, .inr (2, [.ref q1, .ref q2, .ref q3, .ref q4, .ref q5, .ref q6, .null, .int (nI 0), .int (nI 0), .int (nI 0), .int (nI 0)])), (q1, .inl (cI, 3, .inl (fun _ => nI 0))), (q2, .inl (cI, 5, .inl (fun _ => nI 0))), (q3, .inl (cI, 5, .inl (fun _ => nI 0))), (q4, .inl (cI, 5, .inl (fun _ => nI 0))), (q5, .inl (cI, 5, .inl (fun _ => nI 0))), (q6, .inl (cI, 5, .inl (fun _ => nI 0)))] rfl dX2_init_43 ?_
  refine g_aload_n hC 0 dX2_init_46 rfl rfl ?_
  refine g_iconst (v := nI 5) hC dX2_init_47 rfl ?_
  refine g_newa (atype := .int) (ty := .int) (f := fun _ => nI 0) hC 0 rfl rfl (fun _ h => by cases h) w4 5 rfl (Nat.le_of_ble_eq_true rfl) (newI _) (Nat.le_of_ble_eq_true rfl) (Nat.le_of_ble_eq_true rfl) (Nat.le_of_ble_eq_true rfl) dX2_init_48 (fun q7 => ?_)
  refine g_ws (ws2 := [(h, .inr (2, [.ref q1, .ref q2, .ref q3, .ref q4, .ref q5, .ref q6, .null, .int (nI 0), .int (nI 0), .int (nI 0), .int (nI 0)])), (q1, .inl (cI, 3, .inl (fun _ => nI 0))), (q2, .inl (cI, 5, .inl (fun _ => nI 0))), (q3, .inl (cI, 5, .inl (fun _ => nI 0))), (q4, .inl (cI, 5, .inl (fun _ => nI 0))), (q5, .inl (cI, 5, .inl (fun _ => nI 0))), (q6, .inl (cI, 5, .inl (fun _ => nI 0))), (q7, .inl (cI, 5, .inl (fun _ => nI 0)))]) rfl ?_
  refine g_widen (k2 := 7) (n2 := 33) (Nat.le_of_ble_eq_true rfl) (Nat.le_of_ble_eq_true rfl) ?_
  refine g_putF (C := RX2) (T := TX2) (N := 11) (ci := 2) (v := .ref q7) hC hcw2 tyX2 tyX2_ok nmX2 0 rfl rfl 6 (by decide) w11 (fun _ h => h) rfl (hin rfl) rfl (tyX2_ok 6 (by decide)) rfl rfl (Nat.le_of_ble_eq_true rfl) [(h, .inr (2, [.ref q1, .ref q2, .ref q3, .ref q4, .ref q5, .ref q6, .ref q7, .int (nI 0), .int (nI 0), .int (nI 0), .int (nI 0)])), (q1, .inl (cI, 3, .inl (fun _ => nI 0))), (q2, .inl (cI, 5, .inl (fun _ => nI 0))), (q3, .inl (cI, 5, .inl (fun _ => nI 0))), (q4, .inl (cI, 5, .inl (fun _ => nI 0))), (q5, .inl (cI, 5, .inl (fun _ => nI 0))), (q6, .inl (cI, 5, .inl (fun _ => nI 0))), (q7, .inl (cI, 5, .inl (fun _ => nI 0)))] rfl dX2_init_50 ?_
  subst hQ
  refine g_vret hC ((fun k_ => [q1, q2, q3, q4, q5, q6, q7].getD k_ 0)) hr ?_ rfl dX2_init_53
  trivial


abbrev rm_X3_init : Room := { frames := 1, cells := 1, slots := 20, locals := 12 }
set_option maxRecDepth 100000 in
set_option maxHeartbeats 4000000 in
theorem c_X3_init (l : Launch) (D : va_G) (cI cZ : ClassId) (h : Nat) (hp : Nat) : CtV l yX3_init wsX3_init rm_X3_init D cI cZ [.ref h, .ref hp] [(h, .inr (3, [.null, .null]))] (fun (b : Nat) => True) (fun (b : Nat) => [(h, .inr (3, [.ref hp, .ref b])), (b, .inl (cI, 20, .inl (fun _ => nI 0)))]) 1 20 := by
  refine g_startV (ret := none) (own := RX3) (lv0 := [(0, .ref h), (1, .ref hp)]) (by decide) rfl rfl (Nat.le_of_ble_eq_true rfl) rfl ?_
  intro p e s m args below meth cd A Q hin hr hQ hC
  have hcw3 : ∀ w ∈ wsX30, w ∈ wsX3_init := fun _ h => List.mem_cons_of_mem _ (List.mem_append_right _ h)
  have w1 := hC.1.2.2.2.2 (.methodLink "PluckBroker$State" 5 ⟨"java/lang/Object", "<init>", "()V"⟩) (List.mem_of_getElem? (i := 1) rfl)
  have w2 := hC.1.2.2.2.2 (.instanceMethod ⟨"java/lang/Object", "<init>", "()V"⟩) (List.mem_of_getElem? (i := 2) rfl)
  have w3 := hC.1.2.2.2.2 (.code ⟨"java/lang/Object", "<init>", "()V"⟩ ⟨#[0xb1]⟩ 1 none) (List.mem_of_getElem? (i := 3) rfl)
  have w4 := hC.1.2.2.2.2 (.arrayClass .int) (List.mem_of_getElem? (i := 4) rfl)
  have w5 := hC.1.2.2.2.2 (.fieldLink "PluckBroker$State" 11 "PluckBroker$State" "cells" "[I") (List.mem_of_getElem? (i := 5) rfl)
  have w6 := hC.1.2.2.2.2 (.fieldLink "PluckBroker$State" 15 "PluckBroker$State" "plan" "LPluckBroker$Plan;") (List.mem_of_getElem? (i := 6) rfl)
  refine g_aload_n hC 0 dX3_init_0 rfl rfl ?_
  refine g_objInit hC w1 w2 w3 dX3_init_1 ⟨Nat.le_of_ble_eq_true rfl, Nat.le_of_ble_eq_true rfl⟩ ?_
  refine g_aload_n hC 0 dX3_init_4 rfl rfl ?_
  refine g_bipush (v := nI 20) hC dX3_init_5 (by decide +kernel) ?_
  refine g_newa (atype := .int) (ty := .int) (f := fun _ => nI 0) hC 0 rfl rfl (fun _ h => by cases h) w4 20 rfl (Nat.le_of_ble_eq_true rfl) (newI _) (Nat.le_of_ble_eq_true rfl) (Nat.le_of_ble_eq_true rfl) (Nat.le_of_ble_eq_true rfl) dX3_init_7 (fun q1 => ?_)
  refine g_ws (ws2 := [(h, .inr (3, [.null, .null])), (q1, .inl (cI, 20, .inl (fun _ => nI 0)))]) rfl ?_
  refine g_widen (k2 := 1) (n2 := 20) (Nat.le_of_ble_eq_true rfl) (Nat.le_of_ble_eq_true rfl) ?_
  refine g_putF (C := RX3) (T := TX3) (N := 2) (ci := 3) (v := .ref q1) hC hcw3 tyX3 tyX3_ok nmX3 0 rfl rfl 1 (by decide) w5 (fun _ h => h) rfl (hin rfl) rfl (tyX3_ok 1 (by decide)) rfl rfl (Nat.le_of_ble_eq_true rfl) [(h, .inr (3, [.null, .ref q1])), (q1, .inl (cI, 20, .inl (fun _ => nI 0)))] rfl dX3_init_9 ?_
  refine g_aload_n hC 0 dX3_init_12 rfl rfl ?_
  refine g_aload_n hC 1 dX3_init_13 rfl rfl ?_
  refine g_putF (C := RX3) (T := TX3) (N := 2) (ci := 3) (v := .ref hp) hC hcw3 tyX3 tyX3_ok nmX3 0 rfl rfl 0 (by decide) w6 (fun _ h => h) rfl (hin rfl) rfl (tyX3_ok 0 (by decide)) rfl rfl (Nat.le_of_ble_eq_true rfl) [(h, .inr (3, [.ref hp, .ref q1])), (q1, .inl (cI, 20, .inl (fun _ => nI 0)))] rfl dX3_init_14 ?_
  subst hQ
  refine g_vret hC (q1) hr ?_ rfl dX3_init_17
  trivial


abbrev rm_X4_init : Room := { frames := 1, cells := 1, slots := 48, locals := 12 }
set_option maxRecDepth 100000 in
set_option maxHeartbeats 4000000 in
theorem c_X4_init (l : Launch) (D : va_G) (cI cZ : ClassId) (h : Nat) : CtV l yX4_init wsX4_init rm_X4_init D cI cZ [.ref h] [(h, .inr (4, [.null, .int (nI 0), .int (nI 0)]))] (fun (b : Nat) => True) (fun (b : Nat) => [(h, .inr (4, [.ref b, .int (nI 0), .int (nI 0)])), (b, .inl (cI, 48, .inl (fun _ => nI 0)))]) 1 48 := by
  refine g_startV (ret := none) (own := RX4) (lv0 := [(0, .ref h)]) (by decide) rfl rfl (Nat.le_of_ble_eq_true rfl) rfl ?_
  intro p e s m args below meth cd A Q hin hr hQ hC
  have hcw4 : ∀ w ∈ wsX40, w ∈ wsX4_init := fun _ h => List.mem_cons_of_mem _ (List.mem_append_right _ h)
  have w1 := hC.1.2.2.2.2 (.methodLink "PluckBroker$Text" 3 ⟨"java/lang/Object", "<init>", "()V"⟩) (List.mem_of_getElem? (i := 1) rfl)
  have w2 := hC.1.2.2.2.2 (.instanceMethod ⟨"java/lang/Object", "<init>", "()V"⟩) (List.mem_of_getElem? (i := 2) rfl)
  have w3 := hC.1.2.2.2.2 (.code ⟨"java/lang/Object", "<init>", "()V"⟩ ⟨#[0xb1]⟩ 1 none) (List.mem_of_getElem? (i := 3) rfl)
  have w4 := hC.1.2.2.2.2 (.arrayClass .int) (List.mem_of_getElem? (i := 4) rfl)
  have w5 := hC.1.2.2.2.2 (.fieldLink "PluckBroker$Text" 9 "PluckBroker$Text" "bytes" "[I") (List.mem_of_getElem? (i := 5) rfl)
  refine g_aload_n hC 0 dX4_init_0 rfl rfl ?_
  refine g_objInit hC w1 w2 w3 dX4_init_1 ⟨Nat.le_of_ble_eq_true rfl, Nat.le_of_ble_eq_true rfl⟩ ?_
  refine g_aload_n hC 0 dX4_init_4 rfl rfl ?_
  refine g_bipush (v := nI 48) hC dX4_init_5 (by decide +kernel) ?_
  refine g_newa (atype := .int) (ty := .int) (f := fun _ => nI 0) hC 0 rfl rfl (fun _ h => by cases h) w4 48 rfl (Nat.le_of_ble_eq_true rfl) (newI _) (Nat.le_of_ble_eq_true rfl) (Nat.le_of_ble_eq_true rfl) (Nat.le_of_ble_eq_true rfl) dX4_init_7 (fun q1 => ?_)
  refine g_ws (ws2 := [(h, .inr (4, [.null, .int (nI 0), .int (nI 0)])), (q1, .inl (cI, 48, .inl (fun _ => nI 0)))]) rfl ?_
  refine g_widen (k2 := 1) (n2 := 48) (Nat.le_of_ble_eq_true rfl) (Nat.le_of_ble_eq_true rfl) ?_
  refine g_putF (C := RX4) (T := TX4) (N := 3) (ci := 4) (v := .ref q1) hC hcw4 tyX4 tyX4_ok nmX4 0 rfl rfl 0 (by decide) w5 (fun _ h => h) rfl (hin rfl) rfl (tyX4_ok 0 (by decide)) rfl rfl (Nat.le_of_ble_eq_true rfl) [(h, .inr (4, [.ref q1, .int (nI 0), .int (nI 0)])), (q1, .inl (cI, 48, .inl (fun _ => nI 0)))] rfl dX4_init_9 ?_
  subst hQ
  refine g_vret hC (q1) hr ?_ rfl dX4_init_12
  trivial

