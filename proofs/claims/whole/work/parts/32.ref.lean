abbrev rm_X6_figure : Room := { frames := 1, cells := 0, slots := 0, locals := 25 }
set_option maxRecDepth 100000 in
set_option maxHeartbeats 4000000 in
theorem c_X6_figure (l : Launch) (D : va_G) (cI cZ : ClassId) (mo : Nat) (rm : Nat → Nat) (tl : Nat) (np : Nat) (nq : Nat) (nd : Nat) (rt : Int32) (rp : Int32) (rq : Int32) (rd : Int32) (cnt : Nat) (na : Nat) (sd : Int64) (rw : Int32) (rx : Int32) (tm : Int32) (tf : Int32) (sm : Int32) (sf : Int32) (tx : Nat → Nat) (cur : Nat) (lo : Nat) (hi : Nat) (hl : tl ≤ 48) (htx : ∀ k, tx k < 256) (hcl : cur ≤ tl) (hlo : lo < 100) (hhi : hi < 100) : CtI l yX6_figure wsX6_figure rm_X6_figure D cI cZ [.ref mo, .int (nI lo), .int (nI hi)] [(mo, o6 rm (nI tl) (nI cur) (nI np) (nI nq) (nI nd) rt rp rq rd (nI cnt) (nI na) sd rw rx tm tf sm sf), (rm 0, .inl (cI, 48, .inl (fun k_ => nI (tx k_))))] (fun r (_ : Unit) => r = figW tx tl cur lo hi) (fun (_ : Unit) => [(mo, o6 rm (nI tl) (nI (figC tx tl cur lo hi)) (nI np) (nI nq) (nI nd) rt rp rq rd (nI cnt) (nI na) sd rw rx tm tf sm sf), (rm 0, .inl (cI, 48, .inl (fun k_ => nI (tx k_))))]) 0 0 := by
  refine g_startI (ret := (some .int)) (own := RX6) (lv0 := [(0, .ref mo), (1, .int (nI lo)), (2, .int (nI hi))]) (by decide) rfl rfl (Nat.le_of_ble_eq_true rfl) rfl ?_
  intro p e s m args below meth cd A Q hin hr hQ hC
  have hcw6 : ∀ w ∈ wsX60, w ∈ wsX6_figure := fun _ h => List.mem_cons_of_mem _ (List.mem_append_right _ h)
  have w1 := hC.1.2.2.2.2 (.fieldLink "PluckBrokerModel" 90 "PluckBrokerModel" "place" "I") (List.mem_of_getElem? (i := 1) rfl)
  have w2 := hC.1.2.2.2.2 (.fieldLink "PluckBrokerModel" 87 "PluckBrokerModel" "textSize" "I") (List.mem_of_getElem? (i := 2) rfl)
  have w3 := hC.1.2.2.2.2 (.fieldLink "PluckBrokerModel" 7 "PluckBrokerModel" "text" "[I") (List.mem_of_getElem? (i := 3) rfl)
  have hxc := htx cur
  have hfw := fig_w (lo := lo) (hi := hi) hxc hlo hhi
  refine g_aload_n hC 0 dX6_figure_0 rfl rfl ?_
  refine g_get (C := RX6) (T := TX6) (N := 38) (ci := 6) (v := .int (nI cur)) hC hcw6 0 rfl rfl 3 (by decide) w1 (fun _ h => h) rfl dX6_figure_1 ?_
  refine g_aload_n hC 0 dX6_figure_4 rfl rfl ?_
  refine g_get (C := RX6) (T := TX6) (N := 38) (ci := 6) (v := .int (nI tl)) hC hcw6 0 rfl rfl 2 (by decide) w2 (fun _ h => h) rfl dX6_figure_5 ?_
  refine g_icmp_eq_n (a := cur) (b := tl) hC (by omega) (by omega) 34 dX6_figure_8 (by decide) (fun h8t => ?_) (fun h8f => ?_)
  · have hf : ¬ fig tx tl cur lo hi := fun q => by have := q.1; omega
    have efld : (cur : Nat) = figC tx tl cur lo hi := by rw [figC_n hf]
    refine g_ws (ws2 := [(mo, o6 rm (nI tl) (nI (figC tx tl cur lo hi)) (nI np) (nI nq) (nI nd) rt rp rq rd (nI cnt) (nI na) sd rw rx tm tf sm sf), (rm 0, .inl (cI, 48, .inl (fun k_ => nI (tx k_))))]) (congrArg (fun zz : Nat => ([(mo, o6 rm (nI tl) (nI zz) (nI np) (nI nq) (nI nd) rt rp rq rd (nI cnt) (nI na) sd rw rx tm tf sm sf), (rm 0, .inl (cI, 48, .inl (fun k_ => nI (tx k_))))] : va_W)) efld) ?_
    refine g_bipush (v := (-9)) hC dX6_figure_34 (by decide +kernel) ?_
    subst hQ
    refine g_iret (v := -9) hC () hr ?_ rfl dX6_figure_36
    exact (figW_n hf).symm
  refine g_aload_n hC 0 dX6_figure_11 rfl rfl ?_
  refine g_get (C := RX6) (T := TX6) (N := 38) (ci := 6) (v := .ref (rm 0)) hC hcw6 0 rfl rfl 1 (by decide) w3 (fun _ h => h) rfl dX6_figure_12 ?_
  refine g_aload_n hC 0 dX6_figure_15 rfl rfl ?_
  refine g_get (C := RX6) (T := TX6) (N := 38) (ci := 6) (v := .int (nI cur)) hC hcw6 0 rfl rfl 3 (by decide) w1 (fun _ h => h) rfl dX6_figure_16 ?_
  refine g_iald hC 1 rfl cur rfl (by omega) (by decide) dX6_figure_19 ?_
  refine g_bipush (v := nI 48) hC dX6_figure_20 (by decide +kernel) ?_
  refine g_isub hC dX6_figure_22 ?_
  refine g_i2l hC dX6_figure_23 rfl ?_
  refine g_iload_n hC 1 dX6_figure_24 rfl rfl ?_
  refine g_i2l hC dX6_figure_25 rfl ?_
  refine g_iload_n hC 2 dX6_figure_26 rfl rfl ?_
  refine g_i2l hC dX6_figure_27 rfl ?_
  refine g_callSip (As := [.long (((nI (tx cur)) - (nI 48)).toInt64), .long ((nI lo).toInt64), .long ((nI hi).toInt64)]) (rest := []) hC (bI ((nI lo) ≤ ((nI (tx cur)) - (nI 48)) ∧ ((nI (tx cur)) - (nI 48)) ≤ (nI hi))) (c_X6_in l D cI cZ ((nI (tx cur)) - (nI 48)) (nI lo) (nI hi)) (va_cwS 3 hC.1.2.2.2.2 gX6_figure_X6_in rfl rfl rfl dS_X6_in ⟨Nat.le_of_ble_eq_true rfl, Nat.le_of_ble_eq_true rfl⟩) rfl rfl (Nat.le_of_ble_eq_true rfl) dX6_figure_28 ⟨Nat.le_of_ble_eq_true rfl, Nat.le_of_ble_eq_true rfl⟩ [] rfl rfl ?_
  refine g_if_ne_b hC 37 dX6_figure_31 (by decide) (fun h31t => ?_) (fun h31f => ?_)
  · have hf : fig tx tl cur lo hi := ⟨by omega, hfw.mp h31t⟩
    have hf48 := hf.2.1
    refine g_aload_n hC 0 dX6_figure_37 rfl rfl ?_
    refine g_dup hC dX6_figure_38 rfl ?_
    refine g_get (C := RX6) (T := TX6) (N := 38) (ci := 6) (v := .int (nI cur)) hC hcw6 0 rfl rfl 3 (by decide) w1 (fun _ h => h) rfl dX6_figure_39 ?_
    refine g_iconst (v := nI 1) hC dX6_figure_42 rfl ?_
    refine g_iadd_n (a := cur) (b := 1) hC dX6_figure_43 ?_
    refine g_put (C := RX6) (T := TX6) (N := 38) (ci := 6) (v := .int (nI (cur + 1))) hC hcw6 tyX6 tyX6_ok nmX6 0 rfl rfl 3 (by decide) w1 (fun _ h => h) rfl (tyX6_ok 3 (by decide)) rfl rfl (Nat.le_of_ble_eq_true rfl) [(mo, o6 rm (nI tl) (nI (cur + 1)) (nI np) (nI nq) (nI nd) rt rp rq rd (nI cnt) (nI na) sd rw rx tm tf sm sf), (rm 0, .inl (cI, 48, .inl (fun k_ => nI (tx k_))))] rfl dX6_figure_44 ?_
    refine g_aload_n hC 0 dX6_figure_47 rfl rfl ?_
    refine g_get (C := RX6) (T := TX6) (N := 38) (ci := 6) (v := .ref (rm 0)) hC hcw6 0 rfl rfl 1 (by decide) w3 (fun _ h => h) rfl dX6_figure_48 ?_
    refine g_aload_n hC 0 dX6_figure_51 rfl rfl ?_
    refine g_get (C := RX6) (T := TX6) (N := 38) (ci := 6) (v := .int (nI (cur + 1))) hC hcw6 0 rfl rfl 3 (by decide) w1 (fun _ h => h) rfl dX6_figure_52 ?_
    refine g_iconst (v := nI 1) hC dX6_figure_55 rfl ?_
    refine g_isub_n (a := (cur + 1)) (b := 1) hC (by omega) dX6_figure_56 ?_
    refine g_iald hC 1 rfl (cur + 1 - 1) rfl (by omega) (by decide) dX6_figure_57 ?_
    refine g_top (y := nI (tx cur)) rfl ?_
    refine g_bipush (v := nI 48) hC dX6_figure_58 (by decide +kernel) ?_
    refine g_isub_n (a := (tx cur)) (b := 48) hC (by omega) dX6_figure_60 ?_
    have efld : (cur + 1 : Nat) = figC tx tl cur lo hi := by rw [figC_e hf]
    refine g_ws (ws2 := [(mo, o6 rm (nI tl) (nI (figC tx tl cur lo hi)) (nI np) (nI nq) (nI nd) rt rp rq rd (nI cnt) (nI na) sd rw rx tm tf sm sf), (rm 0, .inl (cI, 48, .inl (fun k_ => nI (tx k_))))]) (congrArg (fun zz : Nat => ([(mo, o6 rm (nI tl) (nI zz) (nI np) (nI nq) (nI nd) rt rp rq rd (nI cnt) (nI na) sd rw rx tm tf sm sf), (rm 0, .inl (cI, 48, .inl (fun k_ => nI (tx k_))))] : va_W)) efld) ?_
    subst hQ
    refine g_iret (v := nI (tx cur - 48)) hC () hr ?_ rfl dX6_figure_61
    exact (figW_e hf).symm
  have hf : ¬ fig tx tl cur lo hi := fun q => h31f (hfw.mpr q.2)
  have efld : (cur : Nat) = figC tx tl cur lo hi := by rw [figC_n hf]
  refine g_ws (ws2 := [(mo, o6 rm (nI tl) (nI (figC tx tl cur lo hi)) (nI np) (nI nq) (nI nd) rt rp rq rd (nI cnt) (nI na) sd rw rx tm tf sm sf), (rm 0, .inl (cI, 48, .inl (fun k_ => nI (tx k_))))]) (congrArg (fun zz : Nat => ([(mo, o6 rm (nI tl) (nI zz) (nI np) (nI nq) (nI nd) rt rp rq rd (nI cnt) (nI na) sd rw rx tm tf sm sf), (rm 0, .inl (cI, 48, .inl (fun k_ => nI (tx k_))))] : va_W)) efld) ?_
  refine g_bipush (v := (-9)) hC dX6_figure_34 (by decide +kernel) ?_
  subst hQ
  refine g_iret (v := -9) hC () hr ?_ rfl dX6_figure_36
  exact (figW_n hf).symm

abbrev rm_X6_readOnePerson : Room := { frames := 2, cells := 0, slots := 0, locals := 47 }
set_option maxRecDepth 100000 in
set_option maxHeartbeats 4000000 in
theorem c_X6_readOnePerson (l : Launch) (D : va_G) (cI cZ : ClassId) (mo : Nat) (rm : Nat → Nat) (tl : Nat) (np : Nat) (nq : Nat) (nd : Nat) (rt : Int32) (cnt : Nat) (na : Nat) (sd : Int64) (rw : Int32) (rx : Int32) (tm : Int32) (tf : Int32) (sm : Int32) (sf : Int32) (tx : Nat → Nat) (cur : Nat) (f7 : Nat → Int32) (f8 : Nat → Int32) (f9 : Nat → Int32) (ap : Nat) (aq : Nat) (ad : Nat) (pu : Nat → Nat) (P : Nat → Nat → Nat) (hl : tl ≤ 48) (htx : ∀ k, tx k < 256) (hcl : cur ≤ tl) (hap : ap ≤ 3) (haq : aq ≤ 5) (had : ad ≤ 5) (hR : RelP f7 f8 f9 ap aq ad pu P) (hq : ap < 3) : CtI l yX6_readOnePerson wsX6_readOnePerson rm_X6_readOnePerson D cI cZ [.ref mo] [(mo, o6 rm (nI tl) (nI cur) (nI np) (nI nq) (nI nd) rt (nI ap) (nI aq) (nI ad) (nI cnt) (nI na) sd rw rx tm tf sm sf), (rm 0, .inl (cI, 48, .inl (fun k_ => nI (tx k_)))), (rm 7, .inl (cI, 3, .inl f7)), (rm 8, .inl (cI, 15, .inl f8)), (rm 9, .inl (cI, 15, .inl f9))] (fun (r : Int32) (z : Nat × Nat × Nat × Nat × (Nat → Nat) × (Nat → Nat → Nat) × (Nat → Int32) × (Nat → Int32) × (Nat → Int32)) => match z with | (cur2, ap2, aq2, ad2, pu2, P2, f72, f82, f92) => r = bI ((rdP tx tl (cur, ap, aq, ad, pu, P)).1 = true) ∧ (cur2, ap2, aq2, ad2, pu2, P2) = (rdP tx tl (cur, ap, aq, ad, pu, P)).2 ∧ RelP f72 f82 f92 ap2 aq2 ad2 pu2 P2) (fun (z : Nat × Nat × Nat × Nat × (Nat → Nat) × (Nat → Nat → Nat) × (Nat → Int32) × (Nat → Int32) × (Nat → Int32)) => match z with | (cur2, ap2, aq2, ad2, pu2, P2, f72, f82, f92) => [(mo, o6 rm (nI tl) (nI cur2) (nI np) (nI nq) (nI nd) rt (nI ap2) (nI aq2) (nI ad2) (nI cnt) (nI na) sd rw rx tm tf sm sf), (rm 0, .inl (cI, 48, .inl (fun k_ => nI (tx k_)))), (rm 7, .inl (cI, 3, .inl f72)), (rm 8, .inl (cI, 15, .inl f82)), (rm 9, .inl (cI, 15, .inl f92))]) 0 0 := by
  refine g_startI (ret := (some .boolean)) (own := RX6) (lv0 := [(0, .ref mo)]) (by decide) rfl rfl (Nat.le_of_ble_eq_true rfl) rfl ?_
  intro p e s m args below meth cd A Q hin hr hQ hC
  have hcw6 : ∀ w ∈ wsX60, w ∈ wsX6_readOnePerson := fun _ h => List.mem_cons_of_mem _ (List.mem_append_right _ h)
  have w1 := hC.1.2.2.2.2 (.fieldLink "PluckBrokerModel" 31 "PluckBrokerModel" "readPerson" "[I") (List.mem_of_getElem? (i := 1) rfl)
  have w2 := hC.1.2.2.2.2 (.fieldLink "PluckBrokerModel" 97 "PluckBrokerModel" "readPersons" "I") (List.mem_of_getElem? (i := 2) rfl)
  have hxc := htx cur
  refine g_aload_n hC 0 dX6_readOnePerson_0 rfl rfl ?_
  refine g_iconst (v := nI 0) hC dX6_readOnePerson_1 rfl ?_
  refine g_bipush (v := nI 9) hC dX6_readOnePerson_2 (by decide +kernel) ?_
  refine g_callVi (As := [.int (nI 0), .int (nI 9)]) (rest := []) hC (c_X6_figure l D cI cZ mo rm tl np nq nd rt (nI ap) (nI aq) (nI ad) cnt na sd rw rx tm tf sm sf tx cur 0 9 (by first | assumption | omega) (by first | assumption | omega) (by first | assumption | omega) (by first | assumption | omega) (by first | assumption | omega)) (cwV 2 hC.1.2.2.2.2 gX6_readOnePerson_X6_figure rfl rfl rfl dV_X6_figure ⟨Nat.le_of_ble_eq_true rfl, Nat.le_of_ble_eq_true rfl⟩) rfl rfl rfl rfl (Nat.le_of_ble_eq_true rfl) dX6_readOnePerson_4 ⟨Nat.le_of_ble_eq_true rfl, Nat.le_of_ble_eq_true rfl⟩ [0, 1] [2, 3, 4] [3, 4, 0, 1, 2] (fun (_ : Unit) => [(mo, o6 rm (nI tl) (nI (figC tx tl cur 0 9)) (nI np) (nI nq) (nI nd) rt (nI ap) (nI aq) (nI ad) (nI cnt) (nI na) sd rw rx tm tf sm sf), (rm 0, .inl (cI, 48, .inl (fun k_ => nI (tx k_)))), (rm 7, .inl (cI, 3, .inl f7)), (rm 8, .inl (cI, 15, .inl f8)), (rm 9, .inl (cI, 15, .inl f9))]) rfl rfl rfl (fun _ => rfl) (fun r4 z4 hp4 => ?_)
  try dsimp only at hp4
  subst hp4
  refine g_is (ws2 := [(mo, o6 rm (nI tl) (nI (figC tx tl cur 0 9)) (nI np) (nI nq) (nI nd) rt (nI ap) (nI aq) (nI ad) (nI cnt) (nI na) sd rw rx tm tf sm sf), (rm 0, .inl (cI, 48, .inl (fun k_ => nI (tx k_)))), (rm 7, .inl (cI, 3, .inl f7)), (rm 8, .inl (cI, 15, .inl f8)), (rm 9, .inl (cI, 15, .inl f9))]) (lv2 := [(0, .ref mo)]) (st2 := [.int (figW tx tl cur 0 9)]) rfl rfl rfl ?_
  refine g_istore_n (lv' := [(0, .ref mo), (1, .int (figW tx tl cur 0 9))]) hC [1, 0] dX6_readOnePerson_7 rfl (by decide) rfl ?_
  refine g_iload_n hC 1 dX6_readOnePerson_8 rfl rfl ?_
  refine g_bipush (v := (-9)) hC dX6_readOnePerson_9 (by decide +kernel) ?_
  refine g_icmp_ne hC 16 dX6_readOnePerson_11 (by decide) (fun h11t => ?_) (fun h11f => ?_)
  · have hf := figW_t h11t
    have efld : (figC tx tl cur 0 9 : Nat) = cur + 1 := by rw [figC_e hf]
    refine g_ws (ws2 := [(mo, o6 rm (nI tl) (nI (cur + 1)) (nI np) (nI nq) (nI nd) rt (nI ap) (nI aq) (nI ad) (nI cnt) (nI na) sd rw rx tm tf sm sf), (rm 0, .inl (cI, 48, .inl (fun k_ => nI (tx k_)))), (rm 7, .inl (cI, 3, .inl f7)), (rm 8, .inl (cI, 15, .inl f8)), (rm 9, .inl (cI, 15, .inl f9))]) (congrArg (fun zz : Nat => ([(mo, o6 rm (nI tl) (nI zz) (nI np) (nI nq) (nI nd) rt (nI ap) (nI aq) (nI ad) (nI cnt) (nI na) sd rw rx tm tf sm sf), (rm 0, .inl (cI, 48, .inl (fun k_ => nI (tx k_)))), (rm 7, .inl (cI, 3, .inl f7)), (rm 8, .inl (cI, 15, .inl f8)), (rm 9, .inl (cI, 15, .inl f9))] : va_W)) efld) ?_
    have elv : (figW tx tl cur 0 9) = nI (tx cur - 48) := by rw [figW_e hf]
    refine g_lve (congrArg (fun zz : Int32 => ([(0, .ref mo), (1, .int zz)] : List (Nat × Value))) elv) ?_
    refine g_aload_n hC 0 dX6_readOnePerson_16 rfl rfl ?_
    refine g_get (C := RX6) (T := TX6) (N := 38) (ci := 6) (v := .ref (rm 7)) hC hcw6 0 rfl rfl 15 (by decide) w1 (fun _ h => h) rfl dX6_readOnePerson_17 ?_
    refine g_aload_n hC 0 dX6_readOnePerson_20 rfl rfl ?_
    refine g_get (C := RX6) (T := TX6) (N := 38) (ci := 6) (v := .int (nI ap)) hC hcw6 0 rfl rfl 14 (by decide) w2 (fun _ h => h) rfl dX6_readOnePerson_21 ?_
    refine g_iload_n hC 1 dX6_readOnePerson_24 rfl rfl ?_
    refine g_iast hC 2 rfl ap rfl (by omega) (by decide) [(mo, o6 rm (nI tl) (nI (cur + 1)) (nI np) (nI nq) (nI nd) rt (nI ap) (nI aq) (nI ad) (nI cnt) (nI na) sd rw rx tm tf sm sf), (rm 0, .inl (cI, 48, .inl (fun k_ => nI (tx k_)))), (rm 7, .inl (cI, 3, .inl (upd f7 ap (nI (tx cur - 48))))), (rm 8, .inl (cI, 15, .inl f8)), (rm 9, .inl (cI, 15, .inl f9))] rfl dX6_readOnePerson_25 ?_
    refine g_aload_n hC 0 dX6_readOnePerson_26 rfl rfl ?_
    refine g_dup hC dX6_readOnePerson_27 rfl ?_
    refine g_get (C := RX6) (T := TX6) (N := 38) (ci := 6) (v := .int (nI ap)) hC hcw6 0 rfl rfl 14 (by decide) w2 (fun _ h => h) rfl dX6_readOnePerson_28 ?_
    refine g_iconst (v := nI 1) hC dX6_readOnePerson_31 rfl ?_
    refine g_iadd_n (a := ap) (b := 1) hC dX6_readOnePerson_32 ?_
    refine g_put (C := RX6) (T := TX6) (N := 38) (ci := 6) (v := .int (nI (ap + 1))) hC hcw6 tyX6 tyX6_ok nmX6 0 rfl rfl 14 (by decide) w2 (fun _ h => h) rfl (tyX6_ok 14 (by decide)) rfl rfl (Nat.le_of_ble_eq_true rfl) [(mo, o6 rm (nI tl) (nI (cur + 1)) (nI np) (nI nq) (nI nd) rt (nI (ap + 1)) (nI aq) (nI ad) (nI cnt) (nI na) sd rw rx tm tf sm sf), (rm 0, .inl (cI, 48, .inl (fun k_ => nI (tx k_)))), (rm 7, .inl (cI, 3, .inl (upd f7 ap (nI (tx cur - 48))))), (rm 8, .inl (cI, 15, .inl f8)), (rm 9, .inl (cI, 15, .inl f9))] rfl dX6_readOnePerson_33 ?_
    refine g_iconst (v := nI 1) hC dX6_readOnePerson_36 rfl ?_
    subst hQ
    refine g_zret (v := nI 1) hC (cur + 1, ap + 1, aq, ad, up1 pu ap (tx cur - 48), P, upd f7 ap (nI (tx cur - 48)), f8, f9) hr (by decide +kernel) ?_ rfl dX6_readOnePerson_37
    have e : rdP tx tl (cur, ap, aq, ad, pu, P) = (true, cur + 1, ap + 1, aq, ad, up1 pu ap (tx cur - 48), P) := if_pos hf
    rw [e]; exact ⟨(bI_t rfl).symm, rfl, hR.p _⟩
  have hf := figW_f htx h11f
  have efld : (figC tx tl cur 0 9 : Nat) = cur := by rw [figC_n hf]
  refine g_ws (ws2 := [(mo, o6 rm (nI tl) (nI cur) (nI np) (nI nq) (nI nd) rt (nI ap) (nI aq) (nI ad) (nI cnt) (nI na) sd rw rx tm tf sm sf), (rm 0, .inl (cI, 48, .inl (fun k_ => nI (tx k_)))), (rm 7, .inl (cI, 3, .inl f7)), (rm 8, .inl (cI, 15, .inl f8)), (rm 9, .inl (cI, 15, .inl f9))]) (congrArg (fun zz : Nat => ([(mo, o6 rm (nI tl) (nI zz) (nI np) (nI nq) (nI nd) rt (nI ap) (nI aq) (nI ad) (nI cnt) (nI na) sd rw rx tm tf sm sf), (rm 0, .inl (cI, 48, .inl (fun k_ => nI (tx k_)))), (rm 7, .inl (cI, 3, .inl f7)), (rm 8, .inl (cI, 15, .inl f8)), (rm 9, .inl (cI, 15, .inl f9))] : va_W)) efld) ?_
  refine g_iconst (v := nI 0) hC dX6_readOnePerson_14 rfl ?_
  subst hQ
  refine g_zret (v := nI 0) hC (cur, ap, aq, ad, pu, P, f7, f8, f9) hr (by decide +kernel) ?_ rfl dX6_readOnePerson_15
  have e : rdP tx tl (cur, ap, aq, ad, pu, P) = (false, cur, ap, aq, ad, pu, P) := if_neg hf
  rw [e]; exact ⟨(bI_f (fun q => by cases q)).symm, rfl, hR⟩

abbrev rm_X6_readOneQuality : Room := { frames := 2, cells := 0, slots := 0, locals := 47 }
set_option maxRecDepth 100000 in
set_option maxHeartbeats 4000000 in
theorem c_X6_readOneQuality (l : Launch) (D : va_G) (cI cZ : ClassId) (mo : Nat) (rm : Nat → Nat) (tl : Nat) (np : Nat) (nq : Nat) (nd : Nat) (rt : Int32) (cnt : Nat) (na : Nat) (sd : Int64) (rw : Int32) (rx : Int32) (tm : Int32) (tf : Int32) (sm : Int32) (sf : Int32) (tx : Nat → Nat) (cur : Nat) (f7 : Nat → Int32) (f8 : Nat → Int32) (f9 : Nat → Int32) (ap : Nat) (aq : Nat) (ad : Nat) (pu : Nat → Nat) (P : Nat → Nat → Nat) (hl : tl ≤ 48) (htx : ∀ k, tx k < 256) (hcl : cur ≤ tl) (hap : ap ≤ 3) (haq : aq ≤ 5) (had : ad ≤ 5) (hR : RelP f7 f8 f9 ap aq ad pu P) (hq : aq < 5) (hz : 0 < ap) : CtI l yX6_readOneQuality wsX6_readOneQuality rm_X6_readOneQuality D cI cZ [.ref mo] [(mo, o6 rm (nI tl) (nI cur) (nI np) (nI nq) (nI nd) rt (nI ap) (nI aq) (nI ad) (nI cnt) (nI na) sd rw rx tm tf sm sf), (rm 0, .inl (cI, 48, .inl (fun k_ => nI (tx k_)))), (rm 7, .inl (cI, 3, .inl f7)), (rm 8, .inl (cI, 15, .inl f8)), (rm 9, .inl (cI, 15, .inl f9))] (fun (r : Int32) (z : Nat × Nat × Nat × Nat × (Nat → Nat) × (Nat → Nat → Nat) × (Nat → Int32) × (Nat → Int32) × (Nat → Int32)) => match z with | (cur2, ap2, aq2, ad2, pu2, P2, f72, f82, f92) => r = bI ((rdQ tx tl (cur, ap, aq, ad, pu, P)).1 = true) ∧ (cur2, ap2, aq2, ad2, pu2, P2) = (rdQ tx tl (cur, ap, aq, ad, pu, P)).2 ∧ RelP f72 f82 f92 ap2 aq2 ad2 pu2 P2) (fun (z : Nat × Nat × Nat × Nat × (Nat → Nat) × (Nat → Nat → Nat) × (Nat → Int32) × (Nat → Int32) × (Nat → Int32)) => match z with | (cur2, ap2, aq2, ad2, pu2, P2, f72, f82, f92) => [(mo, o6 rm (nI tl) (nI cur2) (nI np) (nI nq) (nI nd) rt (nI ap2) (nI aq2) (nI ad2) (nI cnt) (nI na) sd rw rx tm tf sm sf), (rm 0, .inl (cI, 48, .inl (fun k_ => nI (tx k_)))), (rm 7, .inl (cI, 3, .inl f72)), (rm 8, .inl (cI, 15, .inl f82)), (rm 9, .inl (cI, 15, .inl f92))]) 0 0 := by
  refine g_startI (ret := (some .boolean)) (own := RX6) (lv0 := [(0, .ref mo)]) (by decide) rfl rfl (Nat.le_of_ble_eq_true rfl) rfl ?_
  intro p e s m args below meth cd A Q hin hr hQ hC
  have hcw6 : ∀ w ∈ wsX60, w ∈ wsX6_readOneQuality := fun _ h => List.mem_cons_of_mem _ (List.mem_append_right _ h)
  have w1 := hC.1.2.2.2.2 (.fieldLink "PluckBrokerModel" 97 "PluckBrokerModel" "readPersons" "I") (List.mem_of_getElem? (i := 1) rfl)
  have w2 := hC.1.2.2.2.2 (.fieldLink "PluckBrokerModel" 34 "PluckBrokerModel" "readQuality" "[I") (List.mem_of_getElem? (i := 2) rfl)
  have w3 := hC.1.2.2.2.2 (.fieldLink "PluckBrokerModel" 100 "PluckBrokerModel" "readQualities" "I") (List.mem_of_getElem? (i := 3) rfl)
  have hxc := htx cur
  have hxc1 := htx (cur + 1)
  have hxc2 := htx (cur + 2)
  refine g_aload_n hC 0 dX6_readOneQuality_0 rfl rfl ?_
  refine g_iconst (v := nI 0) hC dX6_readOneQuality_1 rfl ?_
  refine g_aload_n hC 0 dX6_readOneQuality_2 rfl rfl ?_
  refine g_get (C := RX6) (T := TX6) (N := 38) (ci := 6) (v := .int (nI ap)) hC hcw6 0 rfl rfl 14 (by decide) w1 (fun _ h => h) rfl dX6_readOneQuality_3 ?_
  refine g_iconst (v := nI 1) hC dX6_readOneQuality_6 rfl ?_
  refine g_isub_n (a := ap) (b := 1) hC (by omega) dX6_readOneQuality_7 ?_
  refine g_callVi (As := [.int (nI 0), .int (nI (ap - 1))]) (rest := []) hC (c_X6_figure l D cI cZ mo rm tl np nq nd rt (nI ap) (nI aq) (nI ad) cnt na sd rw rx tm tf sm sf tx cur 0 (ap - 1) (by first | assumption | omega) (by first | assumption | omega) (by first | assumption | omega) (by first | assumption | omega) (by first | assumption | omega)) (cwV 2 hC.1.2.2.2.2 gX6_readOneQuality_X6_figure rfl rfl rfl dV_X6_figure ⟨Nat.le_of_ble_eq_true rfl, Nat.le_of_ble_eq_true rfl⟩) rfl rfl rfl rfl (Nat.le_of_ble_eq_true rfl) dX6_readOneQuality_8 ⟨Nat.le_of_ble_eq_true rfl, Nat.le_of_ble_eq_true rfl⟩ [0, 1] [2, 3, 4] [3, 4, 0, 1, 2] (fun (_ : Unit) => [(mo, o6 rm (nI tl) (nI (figC tx tl cur 0 (ap - 1))) (nI np) (nI nq) (nI nd) rt (nI ap) (nI aq) (nI ad) (nI cnt) (nI na) sd rw rx tm tf sm sf), (rm 0, .inl (cI, 48, .inl (fun k_ => nI (tx k_)))), (rm 7, .inl (cI, 3, .inl f7)), (rm 8, .inl (cI, 15, .inl f8)), (rm 9, .inl (cI, 15, .inl f9))]) rfl rfl rfl (fun _ => rfl) (fun r8 z8 hp8 => ?_)
  try dsimp only at hp8
  subst hp8
  refine g_is (ws2 := [(mo, o6 rm (nI tl) (nI (figC tx tl cur 0 (ap - 1))) (nI np) (nI nq) (nI nd) rt (nI ap) (nI aq) (nI ad) (nI cnt) (nI na) sd rw rx tm tf sm sf), (rm 0, .inl (cI, 48, .inl (fun k_ => nI (tx k_)))), (rm 7, .inl (cI, 3, .inl f7)), (rm 8, .inl (cI, 15, .inl f8)), (rm 9, .inl (cI, 15, .inl f9))]) (lv2 := [(0, .ref mo)]) (st2 := [.int (figW tx tl cur 0 (ap - 1))]) rfl rfl rfl ?_
  refine g_istore_n (lv' := [(0, .ref mo), (1, .int (figW tx tl cur 0 (ap - 1)))]) hC [1, 0] dX6_readOneQuality_11 rfl (by decide) rfl ?_
  refine g_iload_n hC 1 dX6_readOneQuality_12 rfl rfl ?_
  refine g_bipush (v := (-9)) hC dX6_readOneQuality_13 (by decide +kernel) ?_
  refine g_icmp_ne hC 23 dX6_readOneQuality_15 (by decide) (fun h15t => ?_) (fun h15f => ?_)
  · have hf1 := figW_t h15t
    have efld : (figC tx tl cur 0 (ap - 1) : Nat) = cur + 1 := by rw [figC_e hf1]
    refine g_ws (ws2 := [(mo, o6 rm (nI tl) (nI (cur + 1)) (nI np) (nI nq) (nI nd) rt (nI ap) (nI aq) (nI ad) (nI cnt) (nI na) sd rw rx tm tf sm sf), (rm 0, .inl (cI, 48, .inl (fun k_ => nI (tx k_)))), (rm 7, .inl (cI, 3, .inl f7)), (rm 8, .inl (cI, 15, .inl f8)), (rm 9, .inl (cI, 15, .inl f9))]) (congrArg (fun zz : Nat => ([(mo, o6 rm (nI tl) (nI zz) (nI np) (nI nq) (nI nd) rt (nI ap) (nI aq) (nI ad) (nI cnt) (nI na) sd rw rx tm tf sm sf), (rm 0, .inl (cI, 48, .inl (fun k_ => nI (tx k_)))), (rm 7, .inl (cI, 3, .inl f7)), (rm 8, .inl (cI, 15, .inl f8)), (rm 9, .inl (cI, 15, .inl f9))] : va_W)) efld) ?_
    have elv : (figW tx tl cur 0 (ap - 1)) = nI (tx cur - 48) := by rw [figW_e hf1]
    refine g_lve (congrArg (fun zz : Int32 => ([(0, .ref mo), (1, .int zz)] : List (Nat × Value))) elv) ?_
    refine g_aload_n hC 0 dX6_readOneQuality_23 rfl rfl ?_
    refine g_iconst (v := nI 1) hC dX6_readOneQuality_24 rfl ?_
    refine g_bipush (v := nI 9) hC dX6_readOneQuality_25 (by decide +kernel) ?_
    refine g_callVi (As := [.int (nI 1), .int (nI 9)]) (rest := []) hC (c_X6_figure l D cI cZ mo rm tl np nq nd rt (nI ap) (nI aq) (nI ad) cnt na sd rw rx tm tf sm sf tx (cur + 1) 1 9 (by first | assumption | omega) (by first | assumption | omega) (by first | assumption | omega) (by first | assumption | omega) (by first | assumption | omega)) (cwV 2 hC.1.2.2.2.2 gX6_readOneQuality_X6_figure rfl rfl rfl dV_X6_figure ⟨Nat.le_of_ble_eq_true rfl, Nat.le_of_ble_eq_true rfl⟩) rfl rfl rfl rfl (Nat.le_of_ble_eq_true rfl) dX6_readOneQuality_27 ⟨Nat.le_of_ble_eq_true rfl, Nat.le_of_ble_eq_true rfl⟩ [0, 1] [2, 3, 4] [3, 4, 0, 1, 2] (fun (_ : Unit) => [(mo, o6 rm (nI tl) (nI (figC tx tl (cur + 1) 1 9)) (nI np) (nI nq) (nI nd) rt (nI ap) (nI aq) (nI ad) (nI cnt) (nI na) sd rw rx tm tf sm sf), (rm 0, .inl (cI, 48, .inl (fun k_ => nI (tx k_)))), (rm 7, .inl (cI, 3, .inl f7)), (rm 8, .inl (cI, 15, .inl f8)), (rm 9, .inl (cI, 15, .inl f9))]) rfl rfl rfl (fun _ => rfl) (fun r27 z27 hp27 => ?_)
    try dsimp only at hp27
    subst hp27
    refine g_is (ws2 := [(mo, o6 rm (nI tl) (nI (figC tx tl (cur + 1) 1 9)) (nI np) (nI nq) (nI nd) rt (nI ap) (nI aq) (nI ad) (nI cnt) (nI na) sd rw rx tm tf sm sf), (rm 0, .inl (cI, 48, .inl (fun k_ => nI (tx k_)))), (rm 7, .inl (cI, 3, .inl f7)), (rm 8, .inl (cI, 15, .inl f8)), (rm 9, .inl (cI, 15, .inl f9))]) (lv2 := [(0, .ref mo), (1, .int (nI (tx cur - 48)))]) (st2 := [.int (figW tx tl (cur + 1) 1 9)]) rfl rfl rfl ?_
    refine g_istore_n (lv' := [(0, .ref mo), (1, .int (nI (tx cur - 48))), (2, .int (figW tx tl (cur + 1) 1 9))]) hC [1, 2, 0] dX6_readOneQuality_30 rfl (by decide) rfl ?_
    refine g_iload_n hC 2 dX6_readOneQuality_31 rfl rfl ?_
    refine g_bipush (v := (-9)) hC dX6_readOneQuality_32 (by decide +kernel) ?_
    refine g_icmp_ne hC 42 dX6_readOneQuality_34 (by decide) (fun h34t => ?_) (fun h34f => ?_)
    · have hf2 := figW_t h34t
      have efld : (figC tx tl (cur + 1) 1 9 : Nat) = cur + 2 := by rw [figC_e hf2]
      refine g_ws (ws2 := [(mo, o6 rm (nI tl) (nI (cur + 2)) (nI np) (nI nq) (nI nd) rt (nI ap) (nI aq) (nI ad) (nI cnt) (nI na) sd rw rx tm tf sm sf), (rm 0, .inl (cI, 48, .inl (fun k_ => nI (tx k_)))), (rm 7, .inl (cI, 3, .inl f7)), (rm 8, .inl (cI, 15, .inl f8)), (rm 9, .inl (cI, 15, .inl f9))]) (congrArg (fun zz : Nat => ([(mo, o6 rm (nI tl) (nI zz) (nI np) (nI nq) (nI nd) rt (nI ap) (nI aq) (nI ad) (nI cnt) (nI na) sd rw rx tm tf sm sf), (rm 0, .inl (cI, 48, .inl (fun k_ => nI (tx k_)))), (rm 7, .inl (cI, 3, .inl f7)), (rm 8, .inl (cI, 15, .inl f8)), (rm 9, .inl (cI, 15, .inl f9))] : va_W)) efld) ?_
      have elv : (figW tx tl (cur + 1) 1 9) = nI (tx (cur + 1) - 48) := by rw [figW_e hf2]
      refine g_lve (congrArg (fun zz : Int32 => ([(0, .ref mo), (1, .int (nI (tx cur - 48))), (2, .int zz)] : List (Nat × Value))) elv) ?_
      refine g_aload_n hC 0 dX6_readOneQuality_42 rfl rfl ?_
      refine g_iconst (v := nI 0) hC dX6_readOneQuality_43 rfl ?_
      refine g_iconst (v := nI 3) hC dX6_readOneQuality_44 rfl ?_
      refine g_callVi (As := [.int (nI 0), .int (nI 3)]) (rest := []) hC (c_X6_figure l D cI cZ mo rm tl np nq nd rt (nI ap) (nI aq) (nI ad) cnt na sd rw rx tm tf sm sf tx (cur + 2) 0 3 (by first | assumption | omega) (by first | assumption | omega) (by first | assumption | omega) (by first | assumption | omega) (by first | assumption | omega)) (cwV 2 hC.1.2.2.2.2 gX6_readOneQuality_X6_figure rfl rfl rfl dV_X6_figure ⟨Nat.le_of_ble_eq_true rfl, Nat.le_of_ble_eq_true rfl⟩) rfl rfl rfl rfl (Nat.le_of_ble_eq_true rfl) dX6_readOneQuality_45 ⟨Nat.le_of_ble_eq_true rfl, Nat.le_of_ble_eq_true rfl⟩ [0, 1] [2, 3, 4] [3, 4, 0, 1, 2] (fun (_ : Unit) => [(mo, o6 rm (nI tl) (nI (figC tx tl (cur + 2) 0 3)) (nI np) (nI nq) (nI nd) rt (nI ap) (nI aq) (nI ad) (nI cnt) (nI na) sd rw rx tm tf sm sf), (rm 0, .inl (cI, 48, .inl (fun k_ => nI (tx k_)))), (rm 7, .inl (cI, 3, .inl f7)), (rm 8, .inl (cI, 15, .inl f8)), (rm 9, .inl (cI, 15, .inl f9))]) rfl rfl rfl (fun _ => rfl) (fun r45 z45 hp45 => ?_)
      try dsimp only at hp45
      subst hp45
      refine g_is (ws2 := [(mo, o6 rm (nI tl) (nI (figC tx tl (cur + 2) 0 3)) (nI np) (nI nq) (nI nd) rt (nI ap) (nI aq) (nI ad) (nI cnt) (nI na) sd rw rx tm tf sm sf), (rm 0, .inl (cI, 48, .inl (fun k_ => nI (tx k_)))), (rm 7, .inl (cI, 3, .inl f7)), (rm 8, .inl (cI, 15, .inl f8)), (rm 9, .inl (cI, 15, .inl f9))]) (lv2 := [(0, .ref mo), (1, .int (nI (tx cur - 48))), (2, .int (nI (tx (cur + 1) - 48)))]) (st2 := [.int (figW tx tl (cur + 2) 0 3)]) rfl rfl rfl ?_
      refine g_istore_n (lv' := [(0, .ref mo), (1, .int (nI (tx cur - 48))), (2, .int (nI (tx (cur + 1) - 48))), (3, .int (figW tx tl (cur + 2) 0 3))]) hC [1, 2, 3, 0] dX6_readOneQuality_48 rfl (by decide) rfl ?_
      refine g_iload_n hC 3 dX6_readOneQuality_49 rfl rfl ?_
      refine g_bipush (v := (-9)) hC dX6_readOneQuality_50 (by decide +kernel) ?_
      refine g_icmp_ne hC 57 dX6_readOneQuality_52 (by decide) (fun h52t => ?_) (fun h52f => ?_)
      · have hf3 := figW_t h52t
        have efld : (figC tx tl (cur + 2) 0 3 : Nat) = cur + 3 := by rw [figC_e hf3]
        refine g_ws (ws2 := [(mo, o6 rm (nI tl) (nI (cur + 3)) (nI np) (nI nq) (nI nd) rt (nI ap) (nI aq) (nI ad) (nI cnt) (nI na) sd rw rx tm tf sm sf), (rm 0, .inl (cI, 48, .inl (fun k_ => nI (tx k_)))), (rm 7, .inl (cI, 3, .inl f7)), (rm 8, .inl (cI, 15, .inl f8)), (rm 9, .inl (cI, 15, .inl f9))]) (congrArg (fun zz : Nat => ([(mo, o6 rm (nI tl) (nI zz) (nI np) (nI nq) (nI nd) rt (nI ap) (nI aq) (nI ad) (nI cnt) (nI na) sd rw rx tm tf sm sf), (rm 0, .inl (cI, 48, .inl (fun k_ => nI (tx k_)))), (rm 7, .inl (cI, 3, .inl f7)), (rm 8, .inl (cI, 15, .inl f8)), (rm 9, .inl (cI, 15, .inl f9))] : va_W)) efld) ?_
        have elv : (figW tx tl (cur + 2) 0 3) = nI (tx (cur + 2) - 48) := by rw [figW_e hf3]
        refine g_lve (congrArg (fun zz : Int32 => ([(0, .ref mo), (1, .int (nI (tx cur - 48))), (2, .int (nI (tx (cur + 1) - 48))), (3, .int zz)] : List (Nat × Value))) elv) ?_
        refine g_aload_n hC 0 dX6_readOneQuality_57 rfl rfl ?_
        refine g_get (C := RX6) (T := TX6) (N := 38) (ci := 6) (v := .ref (rm 8)) hC hcw6 0 rfl rfl 17 (by decide) w2 (fun _ h => h) rfl dX6_readOneQuality_58 ?_
        refine g_iconst (v := nI 3) hC dX6_readOneQuality_61 rfl ?_
        refine g_aload_n hC 0 dX6_readOneQuality_62 rfl rfl ?_
        refine g_get (C := RX6) (T := TX6) (N := 38) (ci := 6) (v := .int (nI aq)) hC hcw6 0 rfl rfl 16 (by decide) w3 (fun _ h => h) rfl dX6_readOneQuality_63 ?_
        refine g_imul_n (a := 3) (b := aq) hC dX6_readOneQuality_66 ?_
        refine g_iload_n hC 1 dX6_readOneQuality_67 rfl rfl ?_
        refine g_iast hC 3 rfl (3 * aq) rfl (by omega) (by decide) [(mo, o6 rm (nI tl) (nI (cur + 3)) (nI np) (nI nq) (nI nd) rt (nI ap) (nI aq) (nI ad) (nI cnt) (nI na) sd rw rx tm tf sm sf), (rm 0, .inl (cI, 48, .inl (fun k_ => nI (tx k_)))), (rm 7, .inl (cI, 3, .inl f7)), (rm 8, .inl (cI, 15, .inl (upd f8 (3 * aq) (nI (tx cur - 48))))), (rm 9, .inl (cI, 15, .inl f9))] rfl dX6_readOneQuality_68 ?_
        refine g_aload_n hC 0 dX6_readOneQuality_69 rfl rfl ?_
        refine g_get (C := RX6) (T := TX6) (N := 38) (ci := 6) (v := .ref (rm 8)) hC hcw6 0 rfl rfl 17 (by decide) w2 (fun _ h => h) rfl dX6_readOneQuality_70 ?_
        refine g_iconst (v := nI 3) hC dX6_readOneQuality_73 rfl ?_
        refine g_aload_n hC 0 dX6_readOneQuality_74 rfl rfl ?_
        refine g_get (C := RX6) (T := TX6) (N := 38) (ci := 6) (v := .int (nI aq)) hC hcw6 0 rfl rfl 16 (by decide) w3 (fun _ h => h) rfl dX6_readOneQuality_75 ?_
        refine g_imul_n (a := 3) (b := aq) hC dX6_readOneQuality_78 ?_
        refine g_iconst (v := nI 1) hC dX6_readOneQuality_79 rfl ?_
        refine g_iadd_n (a := (3 * aq)) (b := 1) hC dX6_readOneQuality_80 ?_
        refine g_iload_n hC 2 dX6_readOneQuality_81 rfl rfl ?_
        refine g_iast hC 3 rfl (3 * aq + 1) rfl (by omega) (by decide) [(mo, o6 rm (nI tl) (nI (cur + 3)) (nI np) (nI nq) (nI nd) rt (nI ap) (nI aq) (nI ad) (nI cnt) (nI na) sd rw rx tm tf sm sf), (rm 0, .inl (cI, 48, .inl (fun k_ => nI (tx k_)))), (rm 7, .inl (cI, 3, .inl f7)), (rm 8, .inl (cI, 15, .inl (upd (upd f8 (3 * aq) (nI (tx cur - 48))) (3 * aq + 1) (nI (tx (cur + 1) - 48))))), (rm 9, .inl (cI, 15, .inl f9))] rfl dX6_readOneQuality_82 ?_
        refine g_aload_n hC 0 dX6_readOneQuality_83 rfl rfl ?_
        refine g_get (C := RX6) (T := TX6) (N := 38) (ci := 6) (v := .ref (rm 8)) hC hcw6 0 rfl rfl 17 (by decide) w2 (fun _ h => h) rfl dX6_readOneQuality_84 ?_
        refine g_iconst (v := nI 3) hC dX6_readOneQuality_87 rfl ?_
        refine g_aload_n hC 0 dX6_readOneQuality_88 rfl rfl ?_
        refine g_get (C := RX6) (T := TX6) (N := 38) (ci := 6) (v := .int (nI aq)) hC hcw6 0 rfl rfl 16 (by decide) w3 (fun _ h => h) rfl dX6_readOneQuality_89 ?_
        refine g_imul_n (a := 3) (b := aq) hC dX6_readOneQuality_92 ?_
        refine g_iconst (v := nI 2) hC dX6_readOneQuality_93 rfl ?_
        refine g_iadd_n (a := (3 * aq)) (b := 2) hC dX6_readOneQuality_94 ?_
        refine g_iload_n hC 3 dX6_readOneQuality_95 rfl rfl ?_
        refine g_iast hC 3 rfl (3 * aq + 2) rfl (by omega) (by decide) [(mo, o6 rm (nI tl) (nI (cur + 3)) (nI np) (nI nq) (nI nd) rt (nI ap) (nI aq) (nI ad) (nI cnt) (nI na) sd rw rx tm tf sm sf), (rm 0, .inl (cI, 48, .inl (fun k_ => nI (tx k_)))), (rm 7, .inl (cI, 3, .inl f7)), (rm 8, .inl (cI, 15, .inl (upd (upd (upd f8 (3 * aq) (nI (tx cur - 48))) (3 * aq + 1) (nI (tx (cur + 1) - 48))) (3 * aq + 2) (nI (tx (cur + 2) - 48))))), (rm 9, .inl (cI, 15, .inl f9))] rfl dX6_readOneQuality_96 ?_
        refine g_aload_n hC 0 dX6_readOneQuality_97 rfl rfl ?_
        refine g_dup hC dX6_readOneQuality_98 rfl ?_
        refine g_get (C := RX6) (T := TX6) (N := 38) (ci := 6) (v := .int (nI aq)) hC hcw6 0 rfl rfl 16 (by decide) w3 (fun _ h => h) rfl dX6_readOneQuality_99 ?_
        refine g_iconst (v := nI 1) hC dX6_readOneQuality_102 rfl ?_
        refine g_iadd_n (a := aq) (b := 1) hC dX6_readOneQuality_103 ?_
        refine g_put (C := RX6) (T := TX6) (N := 38) (ci := 6) (v := .int (nI (aq + 1))) hC hcw6 tyX6 tyX6_ok nmX6 0 rfl rfl 16 (by decide) w3 (fun _ h => h) rfl (tyX6_ok 16 (by decide)) rfl rfl (Nat.le_of_ble_eq_true rfl) [(mo, o6 rm (nI tl) (nI (cur + 3)) (nI np) (nI nq) (nI nd) rt (nI ap) (nI (aq + 1)) (nI ad) (nI cnt) (nI na) sd rw rx tm tf sm sf), (rm 0, .inl (cI, 48, .inl (fun k_ => nI (tx k_)))), (rm 7, .inl (cI, 3, .inl f7)), (rm 8, .inl (cI, 15, .inl (upd (upd (upd f8 (3 * aq) (nI (tx cur - 48))) (3 * aq + 1) (nI (tx (cur + 1) - 48))) (3 * aq + 2) (nI (tx (cur + 2) - 48))))), (rm 9, .inl (cI, 15, .inl f9))] rfl dX6_readOneQuality_104 ?_
        refine g_iconst (v := nI 1) hC dX6_readOneQuality_107 rfl ?_
        subst hQ
        refine g_zret (v := nI 1) hC (cur + 3, ap, aq + 1, ad, pu, addQ P aq (tx cur - 48) (tx (cur + 1) - 48) (tx (cur + 2) - 48), f7, upd (upd (upd f8 (3 * aq) (nI (tx cur - 48))) (3 * aq + 1) (nI (tx (cur + 1) - 48))) (3 * aq + 2) (nI (tx (cur + 2) - 48)), f9) hr (by decide +kernel) ?_ rfl dX6_readOneQuality_108
        have e : rdQ tx tl (cur, ap, aq, ad, pu, P) = (true, cur + 3, ap, aq + 1, ad, pu, addQ P aq (tx cur - 48) (tx (cur + 1) - 48) (tx (cur + 2) - 48)) := (if_pos hf1).trans ((if_pos hf2).trans (if_pos hf3))
        rw [e]; exact ⟨(bI_t rfl).symm, rfl, hR.q _ _ _⟩
      have hf3 := figW_f htx h52f
      have efld : (figC tx tl (cur + 2) 0 3 : Nat) = cur + 2 := by rw [figC_n hf3]
      refine g_ws (ws2 := [(mo, o6 rm (nI tl) (nI (cur + 2)) (nI np) (nI nq) (nI nd) rt (nI ap) (nI aq) (nI ad) (nI cnt) (nI na) sd rw rx tm tf sm sf), (rm 0, .inl (cI, 48, .inl (fun k_ => nI (tx k_)))), (rm 7, .inl (cI, 3, .inl f7)), (rm 8, .inl (cI, 15, .inl f8)), (rm 9, .inl (cI, 15, .inl f9))]) (congrArg (fun zz : Nat => ([(mo, o6 rm (nI tl) (nI zz) (nI np) (nI nq) (nI nd) rt (nI ap) (nI aq) (nI ad) (nI cnt) (nI na) sd rw rx tm tf sm sf), (rm 0, .inl (cI, 48, .inl (fun k_ => nI (tx k_)))), (rm 7, .inl (cI, 3, .inl f7)), (rm 8, .inl (cI, 15, .inl f8)), (rm 9, .inl (cI, 15, .inl f9))] : va_W)) efld) ?_
      refine g_iconst (v := nI 0) hC dX6_readOneQuality_55 rfl ?_
      subst hQ
      refine g_zret (v := nI 0) hC (cur + 2, ap, aq, ad, pu, P, f7, f8, f9) hr (by decide +kernel) ?_ rfl dX6_readOneQuality_56
      have e : rdQ tx tl (cur, ap, aq, ad, pu, P) = (false, cur + 2, ap, aq, ad, pu, P) := (if_pos hf1).trans ((if_pos hf2).trans (if_neg hf3))
      rw [e]; exact ⟨(bI_f (fun q => by cases q)).symm, rfl, hR⟩
    have hf2 := figW_f htx h34f
    have efld : (figC tx tl (cur + 1) 1 9 : Nat) = cur + 1 := by rw [figC_n hf2]
    refine g_ws (ws2 := [(mo, o6 rm (nI tl) (nI (cur + 1)) (nI np) (nI nq) (nI nd) rt (nI ap) (nI aq) (nI ad) (nI cnt) (nI na) sd rw rx tm tf sm sf), (rm 0, .inl (cI, 48, .inl (fun k_ => nI (tx k_)))), (rm 7, .inl (cI, 3, .inl f7)), (rm 8, .inl (cI, 15, .inl f8)), (rm 9, .inl (cI, 15, .inl f9))]) (congrArg (fun zz : Nat => ([(mo, o6 rm (nI tl) (nI zz) (nI np) (nI nq) (nI nd) rt (nI ap) (nI aq) (nI ad) (nI cnt) (nI na) sd rw rx tm tf sm sf), (rm 0, .inl (cI, 48, .inl (fun k_ => nI (tx k_)))), (rm 7, .inl (cI, 3, .inl f7)), (rm 8, .inl (cI, 15, .inl f8)), (rm 9, .inl (cI, 15, .inl f9))] : va_W)) efld) ?_
    refine g_bipush (v := (-9)) hC dX6_readOneQuality_37 (by decide +kernel) ?_
    refine g_goto hC 48 dX6_readOneQuality_39 (by decide) ?_
    refine g_istore_n (lv' := [(0, .ref mo), (1, .int (nI (tx cur - 48))), (2, .int (figW tx tl (cur + 1) 1 9)), (3, .int (-9))]) hC [1, 2, 3, 0] dX6_readOneQuality_48 rfl (by decide) rfl ?_
    refine g_iload_n hC 3 dX6_readOneQuality_49 rfl rfl ?_
    refine g_bipush (v := (-9)) hC dX6_readOneQuality_50 (by decide +kernel) ?_
    refine g_icmp_ne hC 57 dX6_readOneQuality_52 (by decide) (fun h52t => ?_) (fun h52f => ?_)
    · exact absurd rfl h52t
    refine g_iconst (v := nI 0) hC dX6_readOneQuality_55 rfl ?_
    subst hQ
    refine g_zret (v := nI 0) hC (cur + 1, ap, aq, ad, pu, P, f7, f8, f9) hr (by decide +kernel) ?_ rfl dX6_readOneQuality_56
    have e : rdQ tx tl (cur, ap, aq, ad, pu, P) = (false, cur + 1, ap, aq, ad, pu, P) := (if_pos hf1).trans (if_neg hf2)
    rw [e]; exact ⟨(bI_f (fun q => by cases q)).symm, rfl, hR⟩
  have hf1 := figW_f htx h15f
  have efld : (figC tx tl cur 0 (ap - 1) : Nat) = cur := by rw [figC_n hf1]
  refine g_ws (ws2 := [(mo, o6 rm (nI tl) (nI cur) (nI np) (nI nq) (nI nd) rt (nI ap) (nI aq) (nI ad) (nI cnt) (nI na) sd rw rx tm tf sm sf), (rm 0, .inl (cI, 48, .inl (fun k_ => nI (tx k_)))), (rm 7, .inl (cI, 3, .inl f7)), (rm 8, .inl (cI, 15, .inl f8)), (rm 9, .inl (cI, 15, .inl f9))]) (congrArg (fun zz : Nat => ([(mo, o6 rm (nI tl) (nI zz) (nI np) (nI nq) (nI nd) rt (nI ap) (nI aq) (nI ad) (nI cnt) (nI na) sd rw rx tm tf sm sf), (rm 0, .inl (cI, 48, .inl (fun k_ => nI (tx k_)))), (rm 7, .inl (cI, 3, .inl f7)), (rm 8, .inl (cI, 15, .inl f8)), (rm 9, .inl (cI, 15, .inl f9))] : va_W)) efld) ?_
  refine g_bipush (v := (-9)) hC dX6_readOneQuality_18 (by decide +kernel) ?_
  refine g_goto hC 30 dX6_readOneQuality_20 (by decide) ?_
  refine g_istore_n (lv' := [(0, .ref mo), (1, .int (figW tx tl cur 0 (ap - 1))), (2, .int (-9))]) hC [1, 2, 0] dX6_readOneQuality_30 rfl (by decide) rfl ?_
  refine g_iload_n hC 2 dX6_readOneQuality_31 rfl rfl ?_
  refine g_bipush (v := (-9)) hC dX6_readOneQuality_32 (by decide +kernel) ?_
  refine g_icmp_ne hC 42 dX6_readOneQuality_34 (by decide) (fun h34t => ?_) (fun h34f => ?_)
  · exact absurd rfl h34t
  refine g_bipush (v := (-9)) hC dX6_readOneQuality_37 (by decide +kernel) ?_
  refine g_goto hC 48 dX6_readOneQuality_39 (by decide) ?_
  refine g_istore_n (lv' := [(0, .ref mo), (1, .int (figW tx tl cur 0 (ap - 1))), (2, .int (-9)), (3, .int (-9))]) hC [1, 2, 3, 0] dX6_readOneQuality_48 rfl (by decide) rfl ?_
  refine g_iload_n hC 3 dX6_readOneQuality_49 rfl rfl ?_
  refine g_bipush (v := (-9)) hC dX6_readOneQuality_50 (by decide +kernel) ?_
  refine g_icmp_ne hC 57 dX6_readOneQuality_52 (by decide) (fun h52t => ?_) (fun h52f => ?_)
  · exact absurd rfl h52t
  refine g_iconst (v := nI 0) hC dX6_readOneQuality_55 rfl ?_
  subst hQ
  refine g_zret (v := nI 0) hC (cur, ap, aq, ad, pu, P, f7, f8, f9) hr (by decide +kernel) ?_ rfl dX6_readOneQuality_56
  have e : rdQ tx tl (cur, ap, aq, ad, pu, P) = (false, cur, ap, aq, ad, pu, P) := if_neg hf1
  rw [e]; exact ⟨(bI_f (fun q => by cases q)).symm, rfl, hR⟩

abbrev rm_X6_readOneDeed : Room := { frames := 2, cells := 0, slots := 0, locals := 47 }
set_option maxRecDepth 100000 in
set_option maxHeartbeats 4000000 in
theorem c_X6_readOneDeed (l : Launch) (D : va_G) (cI cZ : ClassId) (mo : Nat) (rm : Nat → Nat) (tl : Nat) (np : Nat) (nq : Nat) (nd : Nat) (rt : Int32) (cnt : Nat) (na : Nat) (sd : Int64) (rw : Int32) (rx : Int32) (tm : Int32) (tf : Int32) (sm : Int32) (sf : Int32) (tx : Nat → Nat) (cur : Nat) (f7 : Nat → Int32) (f8 : Nat → Int32) (f9 : Nat → Int32) (ap : Nat) (aq : Nat) (ad : Nat) (pu : Nat → Nat) (P : Nat → Nat → Nat) (hl : tl ≤ 48) (htx : ∀ k, tx k < 256) (hcl : cur ≤ tl) (hap : ap ≤ 3) (haq : aq ≤ 5) (had : ad ≤ 5) (hR : RelP f7 f8 f9 ap aq ad pu P) (hq : ad < 5) (hz : 0 < aq) : CtI l yX6_readOneDeed wsX6_readOneDeed rm_X6_readOneDeed D cI cZ [.ref mo] [(mo, o6 rm (nI tl) (nI cur) (nI np) (nI nq) (nI nd) rt (nI ap) (nI aq) (nI ad) (nI cnt) (nI na) sd rw rx tm tf sm sf), (rm 0, .inl (cI, 48, .inl (fun k_ => nI (tx k_)))), (rm 7, .inl (cI, 3, .inl f7)), (rm 8, .inl (cI, 15, .inl f8)), (rm 9, .inl (cI, 15, .inl f9))] (fun (r : Int32) (z : Nat × Nat × Nat × Nat × (Nat → Nat) × (Nat → Nat → Nat) × (Nat → Int32) × (Nat → Int32) × (Nat → Int32)) => match z with | (cur2, ap2, aq2, ad2, pu2, P2, f72, f82, f92) => r = bI ((rdD tx tl (cur, ap, aq, ad, pu, P)).1 = true) ∧ (cur2, ap2, aq2, ad2, pu2, P2) = (rdD tx tl (cur, ap, aq, ad, pu, P)).2 ∧ RelP f72 f82 f92 ap2 aq2 ad2 pu2 P2) (fun (z : Nat × Nat × Nat × Nat × (Nat → Nat) × (Nat → Nat → Nat) × (Nat → Int32) × (Nat → Int32) × (Nat → Int32)) => match z with | (cur2, ap2, aq2, ad2, pu2, P2, f72, f82, f92) => [(mo, o6 rm (nI tl) (nI cur2) (nI np) (nI nq) (nI nd) rt (nI ap2) (nI aq2) (nI ad2) (nI cnt) (nI na) sd rw rx tm tf sm sf), (rm 0, .inl (cI, 48, .inl (fun k_ => nI (tx k_)))), (rm 7, .inl (cI, 3, .inl f72)), (rm 8, .inl (cI, 15, .inl f82)), (rm 9, .inl (cI, 15, .inl f92))]) 0 0 := by
  refine g_startI (ret := (some .boolean)) (own := RX6) (lv0 := [(0, .ref mo)]) (by decide) rfl rfl (Nat.le_of_ble_eq_true rfl) rfl ?_
  intro p e s m args below meth cd A Q hin hr hQ hC
  have hcw6 : ∀ w ∈ wsX60, w ∈ wsX6_readOneDeed := fun _ h => List.mem_cons_of_mem _ (List.mem_append_right _ h)
  have w1 := hC.1.2.2.2.2 (.fieldLink "PluckBrokerModel" 100 "PluckBrokerModel" "readQualities" "I") (List.mem_of_getElem? (i := 1) rfl)
  have w2 := hC.1.2.2.2.2 (.fieldLink "PluckBrokerModel" 37 "PluckBrokerModel" "readDeed" "[I") (List.mem_of_getElem? (i := 2) rfl)
  have w3 := hC.1.2.2.2.2 (.fieldLink "PluckBrokerModel" 103 "PluckBrokerModel" "readDeeds" "I") (List.mem_of_getElem? (i := 3) rfl)
  have hxc := htx cur
  have hxc1 := htx (cur + 1)
  have hxc2 := htx (cur + 2)
  refine g_aload_n hC 0 dX6_readOneDeed_0 rfl rfl ?_
  refine g_iconst (v := nI 0) hC dX6_readOneDeed_1 rfl ?_
  refine g_aload_n hC 0 dX6_readOneDeed_2 rfl rfl ?_
  refine g_get (C := RX6) (T := TX6) (N := 38) (ci := 6) (v := .int (nI aq)) hC hcw6 0 rfl rfl 16 (by decide) w1 (fun _ h => h) rfl dX6_readOneDeed_3 ?_
  refine g_iconst (v := nI 1) hC dX6_readOneDeed_6 rfl ?_
  refine g_isub_n (a := aq) (b := 1) hC (by omega) dX6_readOneDeed_7 ?_
  refine g_callVi (As := [.int (nI 0), .int (nI (aq - 1))]) (rest := []) hC (c_X6_figure l D cI cZ mo rm tl np nq nd rt (nI ap) (nI aq) (nI ad) cnt na sd rw rx tm tf sm sf tx cur 0 (aq - 1) (by first | assumption | omega) (by first | assumption | omega) (by first | assumption | omega) (by first | assumption | omega) (by first | assumption | omega)) (cwV 2 hC.1.2.2.2.2 gX6_readOneDeed_X6_figure rfl rfl rfl dV_X6_figure ⟨Nat.le_of_ble_eq_true rfl, Nat.le_of_ble_eq_true rfl⟩) rfl rfl rfl rfl (Nat.le_of_ble_eq_true rfl) dX6_readOneDeed_8 ⟨Nat.le_of_ble_eq_true rfl, Nat.le_of_ble_eq_true rfl⟩ [0, 1] [2, 3, 4] [3, 4, 0, 1, 2] (fun (_ : Unit) => [(mo, o6 rm (nI tl) (nI (figC tx tl cur 0 (aq - 1))) (nI np) (nI nq) (nI nd) rt (nI ap) (nI aq) (nI ad) (nI cnt) (nI na) sd rw rx tm tf sm sf), (rm 0, .inl (cI, 48, .inl (fun k_ => nI (tx k_)))), (rm 7, .inl (cI, 3, .inl f7)), (rm 8, .inl (cI, 15, .inl f8)), (rm 9, .inl (cI, 15, .inl f9))]) rfl rfl rfl (fun _ => rfl) (fun r8 z8 hp8 => ?_)
  try dsimp only at hp8
  subst hp8
  refine g_is (ws2 := [(mo, o6 rm (nI tl) (nI (figC tx tl cur 0 (aq - 1))) (nI np) (nI nq) (nI nd) rt (nI ap) (nI aq) (nI ad) (nI cnt) (nI na) sd rw rx tm tf sm sf), (rm 0, .inl (cI, 48, .inl (fun k_ => nI (tx k_)))), (rm 7, .inl (cI, 3, .inl f7)), (rm 8, .inl (cI, 15, .inl f8)), (rm 9, .inl (cI, 15, .inl f9))]) (lv2 := [(0, .ref mo)]) (st2 := [.int (figW tx tl cur 0 (aq - 1))]) rfl rfl rfl ?_
  refine g_istore_n (lv' := [(0, .ref mo), (1, .int (figW tx tl cur 0 (aq - 1)))]) hC [1, 0] dX6_readOneDeed_11 rfl (by decide) rfl ?_
  refine g_iload_n hC 1 dX6_readOneDeed_12 rfl rfl ?_
  refine g_bipush (v := (-9)) hC dX6_readOneDeed_13 (by decide +kernel) ?_
  refine g_icmp_ne hC 23 dX6_readOneDeed_15 (by decide) (fun h15t => ?_) (fun h15f => ?_)
  · have hf1 := figW_t h15t
    have efld : (figC tx tl cur 0 (aq - 1) : Nat) = cur + 1 := by rw [figC_e hf1]
    refine g_ws (ws2 := [(mo, o6 rm (nI tl) (nI (cur + 1)) (nI np) (nI nq) (nI nd) rt (nI ap) (nI aq) (nI ad) (nI cnt) (nI na) sd rw rx tm tf sm sf), (rm 0, .inl (cI, 48, .inl (fun k_ => nI (tx k_)))), (rm 7, .inl (cI, 3, .inl f7)), (rm 8, .inl (cI, 15, .inl f8)), (rm 9, .inl (cI, 15, .inl f9))]) (congrArg (fun zz : Nat => ([(mo, o6 rm (nI tl) (nI zz) (nI np) (nI nq) (nI nd) rt (nI ap) (nI aq) (nI ad) (nI cnt) (nI na) sd rw rx tm tf sm sf), (rm 0, .inl (cI, 48, .inl (fun k_ => nI (tx k_)))), (rm 7, .inl (cI, 3, .inl f7)), (rm 8, .inl (cI, 15, .inl f8)), (rm 9, .inl (cI, 15, .inl f9))] : va_W)) efld) ?_
    have elv : (figW tx tl cur 0 (aq - 1)) = nI (tx cur - 48) := by rw [figW_e hf1]
    refine g_lve (congrArg (fun zz : Int32 => ([(0, .ref mo), (1, .int zz)] : List (Nat × Value))) elv) ?_
    refine g_aload_n hC 0 dX6_readOneDeed_23 rfl rfl ?_
    refine g_iconst (v := nI 0) hC dX6_readOneDeed_24 rfl ?_
    refine g_bipush (v := nI 9) hC dX6_readOneDeed_25 (by decide +kernel) ?_
    refine g_callVi (As := [.int (nI 0), .int (nI 9)]) (rest := []) hC (c_X6_figure l D cI cZ mo rm tl np nq nd rt (nI ap) (nI aq) (nI ad) cnt na sd rw rx tm tf sm sf tx (cur + 1) 0 9 (by first | assumption | omega) (by first | assumption | omega) (by first | assumption | omega) (by first | assumption | omega) (by first | assumption | omega)) (cwV 2 hC.1.2.2.2.2 gX6_readOneDeed_X6_figure rfl rfl rfl dV_X6_figure ⟨Nat.le_of_ble_eq_true rfl, Nat.le_of_ble_eq_true rfl⟩) rfl rfl rfl rfl (Nat.le_of_ble_eq_true rfl) dX6_readOneDeed_27 ⟨Nat.le_of_ble_eq_true rfl, Nat.le_of_ble_eq_true rfl⟩ [0, 1] [2, 3, 4] [3, 4, 0, 1, 2] (fun (_ : Unit) => [(mo, o6 rm (nI tl) (nI (figC tx tl (cur + 1) 0 9)) (nI np) (nI nq) (nI nd) rt (nI ap) (nI aq) (nI ad) (nI cnt) (nI na) sd rw rx tm tf sm sf), (rm 0, .inl (cI, 48, .inl (fun k_ => nI (tx k_)))), (rm 7, .inl (cI, 3, .inl f7)), (rm 8, .inl (cI, 15, .inl f8)), (rm 9, .inl (cI, 15, .inl f9))]) rfl rfl rfl (fun _ => rfl) (fun r27 z27 hp27 => ?_)
    try dsimp only at hp27
    subst hp27
    refine g_is (ws2 := [(mo, o6 rm (nI tl) (nI (figC tx tl (cur + 1) 0 9)) (nI np) (nI nq) (nI nd) rt (nI ap) (nI aq) (nI ad) (nI cnt) (nI na) sd rw rx tm tf sm sf), (rm 0, .inl (cI, 48, .inl (fun k_ => nI (tx k_)))), (rm 7, .inl (cI, 3, .inl f7)), (rm 8, .inl (cI, 15, .inl f8)), (rm 9, .inl (cI, 15, .inl f9))]) (lv2 := [(0, .ref mo), (1, .int (nI (tx cur - 48)))]) (st2 := [.int (figW tx tl (cur + 1) 0 9)]) rfl rfl rfl ?_
    refine g_istore_n (lv' := [(0, .ref mo), (1, .int (nI (tx cur - 48))), (2, .int (figW tx tl (cur + 1) 0 9))]) hC [1, 2, 0] dX6_readOneDeed_30 rfl (by decide) rfl ?_
    refine g_iload_n hC 2 dX6_readOneDeed_31 rfl rfl ?_
    refine g_bipush (v := (-9)) hC dX6_readOneDeed_32 (by decide +kernel) ?_
    refine g_icmp_ne hC 42 dX6_readOneDeed_34 (by decide) (fun h34t => ?_) (fun h34f => ?_)
    · have hf2 := figW_t h34t
      have efld : (figC tx tl (cur + 1) 0 9 : Nat) = cur + 2 := by rw [figC_e hf2]
      refine g_ws (ws2 := [(mo, o6 rm (nI tl) (nI (cur + 2)) (nI np) (nI nq) (nI nd) rt (nI ap) (nI aq) (nI ad) (nI cnt) (nI na) sd rw rx tm tf sm sf), (rm 0, .inl (cI, 48, .inl (fun k_ => nI (tx k_)))), (rm 7, .inl (cI, 3, .inl f7)), (rm 8, .inl (cI, 15, .inl f8)), (rm 9, .inl (cI, 15, .inl f9))]) (congrArg (fun zz : Nat => ([(mo, o6 rm (nI tl) (nI zz) (nI np) (nI nq) (nI nd) rt (nI ap) (nI aq) (nI ad) (nI cnt) (nI na) sd rw rx tm tf sm sf), (rm 0, .inl (cI, 48, .inl (fun k_ => nI (tx k_)))), (rm 7, .inl (cI, 3, .inl f7)), (rm 8, .inl (cI, 15, .inl f8)), (rm 9, .inl (cI, 15, .inl f9))] : va_W)) efld) ?_
      have elv : (figW tx tl (cur + 1) 0 9) = nI (tx (cur + 1) - 48) := by rw [figW_e hf2]
      refine g_lve (congrArg (fun zz : Int32 => ([(0, .ref mo), (1, .int (nI (tx cur - 48))), (2, .int zz)] : List (Nat × Value))) elv) ?_
      refine g_aload_n hC 0 dX6_readOneDeed_42 rfl rfl ?_
      refine g_iconst (v := nI 0) hC dX6_readOneDeed_43 rfl ?_
      refine g_bipush (v := nI 9) hC dX6_readOneDeed_44 (by decide +kernel) ?_
      refine g_callVi (As := [.int (nI 0), .int (nI 9)]) (rest := []) hC (c_X6_figure l D cI cZ mo rm tl np nq nd rt (nI ap) (nI aq) (nI ad) cnt na sd rw rx tm tf sm sf tx (cur + 2) 0 9 (by first | assumption | omega) (by first | assumption | omega) (by first | assumption | omega) (by first | assumption | omega) (by first | assumption | omega)) (cwV 2 hC.1.2.2.2.2 gX6_readOneDeed_X6_figure rfl rfl rfl dV_X6_figure ⟨Nat.le_of_ble_eq_true rfl, Nat.le_of_ble_eq_true rfl⟩) rfl rfl rfl rfl (Nat.le_of_ble_eq_true rfl) dX6_readOneDeed_46 ⟨Nat.le_of_ble_eq_true rfl, Nat.le_of_ble_eq_true rfl⟩ [0, 1] [2, 3, 4] [3, 4, 0, 1, 2] (fun (_ : Unit) => [(mo, o6 rm (nI tl) (nI (figC tx tl (cur + 2) 0 9)) (nI np) (nI nq) (nI nd) rt (nI ap) (nI aq) (nI ad) (nI cnt) (nI na) sd rw rx tm tf sm sf), (rm 0, .inl (cI, 48, .inl (fun k_ => nI (tx k_)))), (rm 7, .inl (cI, 3, .inl f7)), (rm 8, .inl (cI, 15, .inl f8)), (rm 9, .inl (cI, 15, .inl f9))]) rfl rfl rfl (fun _ => rfl) (fun r46 z46 hp46 => ?_)
      try dsimp only at hp46
      subst hp46
      refine g_is (ws2 := [(mo, o6 rm (nI tl) (nI (figC tx tl (cur + 2) 0 9)) (nI np) (nI nq) (nI nd) rt (nI ap) (nI aq) (nI ad) (nI cnt) (nI na) sd rw rx tm tf sm sf), (rm 0, .inl (cI, 48, .inl (fun k_ => nI (tx k_)))), (rm 7, .inl (cI, 3, .inl f7)), (rm 8, .inl (cI, 15, .inl f8)), (rm 9, .inl (cI, 15, .inl f9))]) (lv2 := [(0, .ref mo), (1, .int (nI (tx cur - 48))), (2, .int (nI (tx (cur + 1) - 48)))]) (st2 := [.int (figW tx tl (cur + 2) 0 9)]) rfl rfl rfl ?_
      refine g_istore_n (lv' := [(0, .ref mo), (1, .int (nI (tx cur - 48))), (2, .int (nI (tx (cur + 1) - 48))), (3, .int (figW tx tl (cur + 2) 0 9))]) hC [1, 2, 3, 0] dX6_readOneDeed_49 rfl (by decide) rfl ?_
      refine g_iload_n hC 3 dX6_readOneDeed_50 rfl rfl ?_
      refine g_bipush (v := (-9)) hC dX6_readOneDeed_51 (by decide +kernel) ?_
      refine g_icmp_ne hC 58 dX6_readOneDeed_53 (by decide) (fun h53t => ?_) (fun h53f => ?_)
      · have hf3 := figW_t h53t
        have efld : (figC tx tl (cur + 2) 0 9 : Nat) = cur + 3 := by rw [figC_e hf3]
        refine g_ws (ws2 := [(mo, o6 rm (nI tl) (nI (cur + 3)) (nI np) (nI nq) (nI nd) rt (nI ap) (nI aq) (nI ad) (nI cnt) (nI na) sd rw rx tm tf sm sf), (rm 0, .inl (cI, 48, .inl (fun k_ => nI (tx k_)))), (rm 7, .inl (cI, 3, .inl f7)), (rm 8, .inl (cI, 15, .inl f8)), (rm 9, .inl (cI, 15, .inl f9))]) (congrArg (fun zz : Nat => ([(mo, o6 rm (nI tl) (nI zz) (nI np) (nI nq) (nI nd) rt (nI ap) (nI aq) (nI ad) (nI cnt) (nI na) sd rw rx tm tf sm sf), (rm 0, .inl (cI, 48, .inl (fun k_ => nI (tx k_)))), (rm 7, .inl (cI, 3, .inl f7)), (rm 8, .inl (cI, 15, .inl f8)), (rm 9, .inl (cI, 15, .inl f9))] : va_W)) efld) ?_
        have elv : (figW tx tl (cur + 2) 0 9) = nI (tx (cur + 2) - 48) := by rw [figW_e hf3]
        refine g_lve (congrArg (fun zz : Int32 => ([(0, .ref mo), (1, .int (nI (tx cur - 48))), (2, .int (nI (tx (cur + 1) - 48))), (3, .int zz)] : List (Nat × Value))) elv) ?_
        refine g_aload_n hC 0 dX6_readOneDeed_58 rfl rfl ?_
        refine g_get (C := RX6) (T := TX6) (N := 38) (ci := 6) (v := .ref (rm 9)) hC hcw6 0 rfl rfl 19 (by decide) w2 (fun _ h => h) rfl dX6_readOneDeed_59 ?_
        refine g_iconst (v := nI 3) hC dX6_readOneDeed_62 rfl ?_
        refine g_aload_n hC 0 dX6_readOneDeed_63 rfl rfl ?_
        refine g_get (C := RX6) (T := TX6) (N := 38) (ci := 6) (v := .int (nI ad)) hC hcw6 0 rfl rfl 18 (by decide) w3 (fun _ h => h) rfl dX6_readOneDeed_64 ?_
        refine g_imul_n (a := 3) (b := ad) hC dX6_readOneDeed_67 ?_
        refine g_iload_n hC 1 dX6_readOneDeed_68 rfl rfl ?_
        refine g_iast hC 4 rfl (3 * ad) rfl (by omega) (by decide) [(mo, o6 rm (nI tl) (nI (cur + 3)) (nI np) (nI nq) (nI nd) rt (nI ap) (nI aq) (nI ad) (nI cnt) (nI na) sd rw rx tm tf sm sf), (rm 0, .inl (cI, 48, .inl (fun k_ => nI (tx k_)))), (rm 7, .inl (cI, 3, .inl f7)), (rm 8, .inl (cI, 15, .inl f8)), (rm 9, .inl (cI, 15, .inl (upd f9 (3 * ad) (nI (tx cur - 48)))))] rfl dX6_readOneDeed_69 ?_
        refine g_aload_n hC 0 dX6_readOneDeed_70 rfl rfl ?_
        refine g_get (C := RX6) (T := TX6) (N := 38) (ci := 6) (v := .ref (rm 9)) hC hcw6 0 rfl rfl 19 (by decide) w2 (fun _ h => h) rfl dX6_readOneDeed_71 ?_
        refine g_iconst (v := nI 3) hC dX6_readOneDeed_74 rfl ?_
        refine g_aload_n hC 0 dX6_readOneDeed_75 rfl rfl ?_
        refine g_get (C := RX6) (T := TX6) (N := 38) (ci := 6) (v := .int (nI ad)) hC hcw6 0 rfl rfl 18 (by decide) w3 (fun _ h => h) rfl dX6_readOneDeed_76 ?_
        refine g_imul_n (a := 3) (b := ad) hC dX6_readOneDeed_79 ?_
        refine g_iconst (v := nI 1) hC dX6_readOneDeed_80 rfl ?_
        refine g_iadd_n (a := (3 * ad)) (b := 1) hC dX6_readOneDeed_81 ?_
        refine g_iload_n hC 2 dX6_readOneDeed_82 rfl rfl ?_
        refine g_iast hC 4 rfl (3 * ad + 1) rfl (by omega) (by decide) [(mo, o6 rm (nI tl) (nI (cur + 3)) (nI np) (nI nq) (nI nd) rt (nI ap) (nI aq) (nI ad) (nI cnt) (nI na) sd rw rx tm tf sm sf), (rm 0, .inl (cI, 48, .inl (fun k_ => nI (tx k_)))), (rm 7, .inl (cI, 3, .inl f7)), (rm 8, .inl (cI, 15, .inl f8)), (rm 9, .inl (cI, 15, .inl (upd (upd f9 (3 * ad) (nI (tx cur - 48))) (3 * ad + 1) (nI (tx (cur + 1) - 48)))))] rfl dX6_readOneDeed_83 ?_
        refine g_aload_n hC 0 dX6_readOneDeed_84 rfl rfl ?_
        refine g_get (C := RX6) (T := TX6) (N := 38) (ci := 6) (v := .ref (rm 9)) hC hcw6 0 rfl rfl 19 (by decide) w2 (fun _ h => h) rfl dX6_readOneDeed_85 ?_
        refine g_iconst (v := nI 3) hC dX6_readOneDeed_88 rfl ?_
        refine g_aload_n hC 0 dX6_readOneDeed_89 rfl rfl ?_
        refine g_get (C := RX6) (T := TX6) (N := 38) (ci := 6) (v := .int (nI ad)) hC hcw6 0 rfl rfl 18 (by decide) w3 (fun _ h => h) rfl dX6_readOneDeed_90 ?_
        refine g_imul_n (a := 3) (b := ad) hC dX6_readOneDeed_93 ?_
        refine g_iconst (v := nI 2) hC dX6_readOneDeed_94 rfl ?_
        refine g_iadd_n (a := (3 * ad)) (b := 2) hC dX6_readOneDeed_95 ?_
        refine g_iload_n hC 3 dX6_readOneDeed_96 rfl rfl ?_
        refine g_iast hC 4 rfl (3 * ad + 2) rfl (by omega) (by decide) [(mo, o6 rm (nI tl) (nI (cur + 3)) (nI np) (nI nq) (nI nd) rt (nI ap) (nI aq) (nI ad) (nI cnt) (nI na) sd rw rx tm tf sm sf), (rm 0, .inl (cI, 48, .inl (fun k_ => nI (tx k_)))), (rm 7, .inl (cI, 3, .inl f7)), (rm 8, .inl (cI, 15, .inl f8)), (rm 9, .inl (cI, 15, .inl (upd (upd (upd f9 (3 * ad) (nI (tx cur - 48))) (3 * ad + 1) (nI (tx (cur + 1) - 48))) (3 * ad + 2) (nI (tx (cur + 2) - 48)))))] rfl dX6_readOneDeed_97 ?_
        refine g_aload_n hC 0 dX6_readOneDeed_98 rfl rfl ?_
        refine g_dup hC dX6_readOneDeed_99 rfl ?_
        refine g_get (C := RX6) (T := TX6) (N := 38) (ci := 6) (v := .int (nI ad)) hC hcw6 0 rfl rfl 18 (by decide) w3 (fun _ h => h) rfl dX6_readOneDeed_100 ?_
        refine g_iconst (v := nI 1) hC dX6_readOneDeed_103 rfl ?_
        refine g_iadd_n (a := ad) (b := 1) hC dX6_readOneDeed_104 ?_
        refine g_put (C := RX6) (T := TX6) (N := 38) (ci := 6) (v := .int (nI (ad + 1))) hC hcw6 tyX6 tyX6_ok nmX6 0 rfl rfl 18 (by decide) w3 (fun _ h => h) rfl (tyX6_ok 18 (by decide)) rfl rfl (Nat.le_of_ble_eq_true rfl) [(mo, o6 rm (nI tl) (nI (cur + 3)) (nI np) (nI nq) (nI nd) rt (nI ap) (nI aq) (nI (ad + 1)) (nI cnt) (nI na) sd rw rx tm tf sm sf), (rm 0, .inl (cI, 48, .inl (fun k_ => nI (tx k_)))), (rm 7, .inl (cI, 3, .inl f7)), (rm 8, .inl (cI, 15, .inl f8)), (rm 9, .inl (cI, 15, .inl (upd (upd (upd f9 (3 * ad) (nI (tx cur - 48))) (3 * ad + 1) (nI (tx (cur + 1) - 48))) (3 * ad + 2) (nI (tx (cur + 2) - 48)))))] rfl dX6_readOneDeed_105 ?_
        refine g_iconst (v := nI 1) hC dX6_readOneDeed_108 rfl ?_
        subst hQ
        refine g_zret (v := nI 1) hC (cur + 3, ap, aq, ad + 1, pu, addD P ad (tx cur - 48) (tx (cur + 1) - 48) (tx (cur + 2) - 48), f7, f8, upd (upd (upd f9 (3 * ad) (nI (tx cur - 48))) (3 * ad + 1) (nI (tx (cur + 1) - 48))) (3 * ad + 2) (nI (tx (cur + 2) - 48))) hr (by decide +kernel) ?_ rfl dX6_readOneDeed_109
        have e : rdD tx tl (cur, ap, aq, ad, pu, P) = (true, cur + 3, ap, aq, ad + 1, pu, addD P ad (tx cur - 48) (tx (cur + 1) - 48) (tx (cur + 2) - 48)) := (if_pos hf1).trans ((if_pos hf2).trans (if_pos hf3))
        rw [e]; exact ⟨(bI_t rfl).symm, rfl, hR.d _ _ _⟩
      have hf3 := figW_f htx h53f
      have efld : (figC tx tl (cur + 2) 0 9 : Nat) = cur + 2 := by rw [figC_n hf3]
      refine g_ws (ws2 := [(mo, o6 rm (nI tl) (nI (cur + 2)) (nI np) (nI nq) (nI nd) rt (nI ap) (nI aq) (nI ad) (nI cnt) (nI na) sd rw rx tm tf sm sf), (rm 0, .inl (cI, 48, .inl (fun k_ => nI (tx k_)))), (rm 7, .inl (cI, 3, .inl f7)), (rm 8, .inl (cI, 15, .inl f8)), (rm 9, .inl (cI, 15, .inl f9))]) (congrArg (fun zz : Nat => ([(mo, o6 rm (nI tl) (nI zz) (nI np) (nI nq) (nI nd) rt (nI ap) (nI aq) (nI ad) (nI cnt) (nI na) sd rw rx tm tf sm sf), (rm 0, .inl (cI, 48, .inl (fun k_ => nI (tx k_)))), (rm 7, .inl (cI, 3, .inl f7)), (rm 8, .inl (cI, 15, .inl f8)), (rm 9, .inl (cI, 15, .inl f9))] : va_W)) efld) ?_
      refine g_iconst (v := nI 0) hC dX6_readOneDeed_56 rfl ?_
      subst hQ
      refine g_zret (v := nI 0) hC (cur + 2, ap, aq, ad, pu, P, f7, f8, f9) hr (by decide +kernel) ?_ rfl dX6_readOneDeed_57
      have e : rdD tx tl (cur, ap, aq, ad, pu, P) = (false, cur + 2, ap, aq, ad, pu, P) := (if_pos hf1).trans ((if_pos hf2).trans (if_neg hf3))
      rw [e]; exact ⟨(bI_f (fun q => by cases q)).symm, rfl, hR⟩
    have hf2 := figW_f htx h34f
    have efld : (figC tx tl (cur + 1) 0 9 : Nat) = cur + 1 := by rw [figC_n hf2]
    refine g_ws (ws2 := [(mo, o6 rm (nI tl) (nI (cur + 1)) (nI np) (nI nq) (nI nd) rt (nI ap) (nI aq) (nI ad) (nI cnt) (nI na) sd rw rx tm tf sm sf), (rm 0, .inl (cI, 48, .inl (fun k_ => nI (tx k_)))), (rm 7, .inl (cI, 3, .inl f7)), (rm 8, .inl (cI, 15, .inl f8)), (rm 9, .inl (cI, 15, .inl f9))]) (congrArg (fun zz : Nat => ([(mo, o6 rm (nI tl) (nI zz) (nI np) (nI nq) (nI nd) rt (nI ap) (nI aq) (nI ad) (nI cnt) (nI na) sd rw rx tm tf sm sf), (rm 0, .inl (cI, 48, .inl (fun k_ => nI (tx k_)))), (rm 7, .inl (cI, 3, .inl f7)), (rm 8, .inl (cI, 15, .inl f8)), (rm 9, .inl (cI, 15, .inl f9))] : va_W)) efld) ?_
    refine g_bipush (v := (-9)) hC dX6_readOneDeed_37 (by decide +kernel) ?_
    refine g_goto hC 49 dX6_readOneDeed_39 (by decide) ?_
    refine g_istore_n (lv' := [(0, .ref mo), (1, .int (nI (tx cur - 48))), (2, .int (figW tx tl (cur + 1) 0 9)), (3, .int (-9))]) hC [1, 2, 3, 0] dX6_readOneDeed_49 rfl (by decide) rfl ?_
    refine g_iload_n hC 3 dX6_readOneDeed_50 rfl rfl ?_
    refine g_bipush (v := (-9)) hC dX6_readOneDeed_51 (by decide +kernel) ?_
    refine g_icmp_ne hC 58 dX6_readOneDeed_53 (by decide) (fun h53t => ?_) (fun h53f => ?_)
    · exact absurd rfl h53t
    refine g_iconst (v := nI 0) hC dX6_readOneDeed_56 rfl ?_
    subst hQ
    refine g_zret (v := nI 0) hC (cur + 1, ap, aq, ad, pu, P, f7, f8, f9) hr (by decide +kernel) ?_ rfl dX6_readOneDeed_57
    have e : rdD tx tl (cur, ap, aq, ad, pu, P) = (false, cur + 1, ap, aq, ad, pu, P) := (if_pos hf1).trans (if_neg hf2)
    rw [e]; exact ⟨(bI_f (fun q => by cases q)).symm, rfl, hR⟩
  have hf1 := figW_f htx h15f
  have efld : (figC tx tl cur 0 (aq - 1) : Nat) = cur := by rw [figC_n hf1]
  refine g_ws (ws2 := [(mo, o6 rm (nI tl) (nI cur) (nI np) (nI nq) (nI nd) rt (nI ap) (nI aq) (nI ad) (nI cnt) (nI na) sd rw rx tm tf sm sf), (rm 0, .inl (cI, 48, .inl (fun k_ => nI (tx k_)))), (rm 7, .inl (cI, 3, .inl f7)), (rm 8, .inl (cI, 15, .inl f8)), (rm 9, .inl (cI, 15, .inl f9))]) (congrArg (fun zz : Nat => ([(mo, o6 rm (nI tl) (nI zz) (nI np) (nI nq) (nI nd) rt (nI ap) (nI aq) (nI ad) (nI cnt) (nI na) sd rw rx tm tf sm sf), (rm 0, .inl (cI, 48, .inl (fun k_ => nI (tx k_)))), (rm 7, .inl (cI, 3, .inl f7)), (rm 8, .inl (cI, 15, .inl f8)), (rm 9, .inl (cI, 15, .inl f9))] : va_W)) efld) ?_
  refine g_bipush (v := (-9)) hC dX6_readOneDeed_18 (by decide +kernel) ?_
  refine g_goto hC 30 dX6_readOneDeed_20 (by decide) ?_
  refine g_istore_n (lv' := [(0, .ref mo), (1, .int (figW tx tl cur 0 (aq - 1))), (2, .int (-9))]) hC [1, 2, 0] dX6_readOneDeed_30 rfl (by decide) rfl ?_
  refine g_iload_n hC 2 dX6_readOneDeed_31 rfl rfl ?_
  refine g_bipush (v := (-9)) hC dX6_readOneDeed_32 (by decide +kernel) ?_
  refine g_icmp_ne hC 42 dX6_readOneDeed_34 (by decide) (fun h34t => ?_) (fun h34f => ?_)
  · exact absurd rfl h34t
  refine g_bipush (v := (-9)) hC dX6_readOneDeed_37 (by decide +kernel) ?_
  refine g_goto hC 49 dX6_readOneDeed_39 (by decide) ?_
  refine g_istore_n (lv' := [(0, .ref mo), (1, .int (figW tx tl cur 0 (aq - 1))), (2, .int (-9)), (3, .int (-9))]) hC [1, 2, 3, 0] dX6_readOneDeed_49 rfl (by decide) rfl ?_
  refine g_iload_n hC 3 dX6_readOneDeed_50 rfl rfl ?_
  refine g_bipush (v := (-9)) hC dX6_readOneDeed_51 (by decide +kernel) ?_
  refine g_icmp_ne hC 58 dX6_readOneDeed_53 (by decide) (fun h53t => ?_) (fun h53f => ?_)
  · exact absurd rfl h53t
  refine g_iconst (v := nI 0) hC dX6_readOneDeed_56 rfl ?_
  subst hQ
  refine g_zret (v := nI 0) hC (cur, ap, aq, ad, pu, P, f7, f8, f9) hr (by decide +kernel) ?_ rfl dX6_readOneDeed_57
  have e : rdD tx tl (cur, ap, aq, ad, pu, P) = (false, cur, ap, aq, ad, pu, P) := if_neg hf1
  rw [e]; exact ⟨(bI_f (fun q => by cases q)).symm, rfl, hR⟩

abbrev rm_X6_readThing : Room := { frames := 3, cells := 0, slots := 0, locals := 70 }
set_option maxRecDepth 100000 in
set_option maxHeartbeats 4000000 in
theorem c_X6_readThing (l : Launch) (D : va_G) (cI cZ : ClassId) (mo : Nat) (rm : Nat → Nat) (tl : Nat) (np : Nat) (nq : Nat) (nd : Nat) (rt : Int32) (cnt : Nat) (na : Nat) (sd : Int64) (rw : Int32) (rx : Int32) (tm : Int32) (tf : Int32) (sm : Int32) (sf : Int32) (tx : Nat → Nat) (cur : Nat) (f7 : Nat → Int32) (f8 : Nat → Int32) (f9 : Nat → Int32) (ap : Nat) (aq : Nat) (ad : Nat) (pu : Nat → Nat) (P : Nat → Nat → Nat) (hl : tl ≤ 48) (htx : ∀ k, tx k < 256) (hc : cur < tl) (hap : ap ≤ 3) (haq : aq ≤ 5) (had : ad ≤ 5) (hR : RelP f7 f8 f9 ap aq ad pu P) : CtI l yX6_readThing wsX6_readThing rm_X6_readThing D cI cZ [.ref mo] [(mo, o6 rm (nI tl) (nI cur) (nI np) (nI nq) (nI nd) rt (nI ap) (nI aq) (nI ad) (nI cnt) (nI na) sd rw rx tm tf sm sf), (rm 0, .inl (cI, 48, .inl (fun k_ => nI (tx k_)))), (rm 7, .inl (cI, 3, .inl f7)), (rm 8, .inl (cI, 15, .inl f8)), (rm 9, .inl (cI, 15, .inl f9))] (fun (r : Int32) (z : Nat × Nat × Nat × Nat × (Nat → Nat) × (Nat → Nat → Nat) × (Nat → Int32) × (Nat → Int32) × (Nat → Int32)) => match z with | (cur2, ap2, aq2, ad2, pu2, P2, f72, f82, f92) => r = bI ((rdT tx tl (cur, ap, aq, ad, pu, P)).1 = true) ∧ (cur2, ap2, aq2, ad2, pu2, P2) = (rdT tx tl (cur, ap, aq, ad, pu, P)).2 ∧ RelP f72 f82 f92 ap2 aq2 ad2 pu2 P2) (fun (z : Nat × Nat × Nat × Nat × (Nat → Nat) × (Nat → Nat → Nat) × (Nat → Int32) × (Nat → Int32) × (Nat → Int32)) => match z with | (cur2, ap2, aq2, ad2, pu2, P2, f72, f82, f92) => [(mo, o6 rm (nI tl) (nI cur2) (nI np) (nI nq) (nI nd) rt (nI ap2) (nI aq2) (nI ad2) (nI cnt) (nI na) sd rw rx tm tf sm sf), (rm 0, .inl (cI, 48, .inl (fun k_ => nI (tx k_)))), (rm 7, .inl (cI, 3, .inl f72)), (rm 8, .inl (cI, 15, .inl f82)), (rm 9, .inl (cI, 15, .inl f92))]) 0 0 := by
  refine g_startI (ret := (some .boolean)) (own := RX6) (lv0 := [(0, .ref mo)]) (by decide) rfl rfl (Nat.le_of_ble_eq_true rfl) rfl ?_
  intro p e s m args below meth cd A Q hin hr hQ hC
  have hcw6 : ∀ w ∈ wsX60, w ∈ wsX6_readThing := fun _ h => List.mem_cons_of_mem _ (List.mem_append_right _ h)
  have w1 := hC.1.2.2.2.2 (.fieldLink "PluckBrokerModel" 7 "PluckBrokerModel" "text" "[I") (List.mem_of_getElem? (i := 1) rfl)
  have w2 := hC.1.2.2.2.2 (.fieldLink "PluckBrokerModel" 90 "PluckBrokerModel" "place" "I") (List.mem_of_getElem? (i := 2) rfl)
  have w3 := hC.1.2.2.2.2 (.fieldLink "PluckBrokerModel" 97 "PluckBrokerModel" "readPersons" "I") (List.mem_of_getElem? (i := 3) rfl)
  have w4 := hC.1.2.2.2.2 (.fieldLink "PluckBrokerModel" 100 "PluckBrokerModel" "readQualities" "I") (List.mem_of_getElem? (i := 4) rfl)
  have w5 := hC.1.2.2.2.2 (.fieldLink "PluckBrokerModel" 103 "PluckBrokerModel" "readDeeds" "I") (List.mem_of_getElem? (i := 5) rfl)
  have hxc := htx cur
  refine g_aload_n hC 0 dX6_readThing_0 rfl rfl ?_
  refine g_get (C := RX6) (T := TX6) (N := 38) (ci := 6) (v := .ref (rm 0)) hC hcw6 0 rfl rfl 1 (by decide) w1 (fun _ h => h) rfl dX6_readThing_1 ?_
  refine g_aload_n hC 0 dX6_readThing_4 rfl rfl ?_
  refine g_get (C := RX6) (T := TX6) (N := 38) (ci := 6) (v := .int (nI cur)) hC hcw6 0 rfl rfl 3 (by decide) w2 (fun _ h => h) rfl dX6_readThing_5 ?_
  refine g_iald hC 1 rfl cur rfl (by omega) (by decide) dX6_readThing_8 ?_
  refine g_istore_n (lv' := [(0, .ref mo), (1, .int (nI (tx cur)))]) hC [1, 0] dX6_readThing_9 rfl (by decide) rfl ?_
  refine g_aload_n hC 0 dX6_readThing_10 rfl rfl ?_
  refine g_dup hC dX6_readThing_11 rfl ?_
  refine g_get (C := RX6) (T := TX6) (N := 38) (ci := 6) (v := .int (nI cur)) hC hcw6 0 rfl rfl 3 (by decide) w2 (fun _ h => h) rfl dX6_readThing_12 ?_
  refine g_iconst (v := nI 1) hC dX6_readThing_15 rfl ?_
  refine g_iadd_n (a := cur) (b := 1) hC dX6_readThing_16 ?_
  refine g_put (C := RX6) (T := TX6) (N := 38) (ci := 6) (v := .int (nI (cur + 1))) hC hcw6 tyX6 tyX6_ok nmX6 0 rfl rfl 3 (by decide) w2 (fun _ h => h) rfl (tyX6_ok 3 (by decide)) rfl rfl (Nat.le_of_ble_eq_true rfl) [(mo, o6 rm (nI tl) (nI (cur + 1)) (nI np) (nI nq) (nI nd) rt (nI ap) (nI aq) (nI ad) (nI cnt) (nI na) sd rw rx tm tf sm sf), (rm 0, .inl (cI, 48, .inl (fun k_ => nI (tx k_)))), (rm 7, .inl (cI, 3, .inl f7)), (rm 8, .inl (cI, 15, .inl f8)), (rm 9, .inl (cI, 15, .inl f9))] rfl dX6_readThing_17 ?_
  refine g_iload_n hC 1 dX6_readThing_20 rfl rfl ?_
  refine g_bipush (v := nI 80) hC dX6_readThing_21 (by decide +kernel) ?_
  refine g_icmp_ne_n (a := (tx cur)) (b := 80) hC (by omega) (by omega) 39 dX6_readThing_23 (by decide) (fun h23t => ?_) (fun h23f => ?_)
  · refine g_iload_n hC 1 dX6_readThing_39 rfl rfl ?_
    refine g_bipush (v := nI 81) hC dX6_readThing_40 (by decide +kernel) ?_
    refine g_icmp_ne_n (a := (tx cur)) (b := 81) hC (by omega) (by omega) 65 dX6_readThing_42 (by decide) (fun h42t => ?_) (fun h42f => ?_)
    · refine g_iload_n hC 1 dX6_readThing_65 rfl rfl ?_
      refine g_bipush (v := nI 68) hC dX6_readThing_66 (by decide +kernel) ?_
      refine g_icmp_ne_n (a := (tx cur)) (b := 68) hC (by omega) (by omega) 91 dX6_readThing_68 (by decide) (fun h68t => ?_) (fun h68f => ?_)
      · refine g_aload_n hC 0 dX6_readThing_91 rfl rfl ?_
        refine g_dup hC dX6_readThing_92 rfl ?_
        refine g_get (C := RX6) (T := TX6) (N := 38) (ci := 6) (v := .int (nI (cur + 1))) hC hcw6 0 rfl rfl 3 (by decide) w2 (fun _ h => h) rfl dX6_readThing_93 ?_
        refine g_iconst (v := nI 1) hC dX6_readThing_96 rfl ?_
        refine g_isub_n (a := (cur + 1)) (b := 1) hC (by omega) dX6_readThing_97 ?_
        refine g_put (C := RX6) (T := TX6) (N := 38) (ci := 6) (v := .int (nI (cur + 1 - 1))) hC hcw6 tyX6 tyX6_ok nmX6 0 rfl rfl 3 (by decide) w2 (fun _ h => h) rfl (tyX6_ok 3 (by decide)) rfl rfl (Nat.le_of_ble_eq_true rfl) [(mo, o6 rm (nI tl) (nI (cur + 1 - 1)) (nI np) (nI nq) (nI nd) rt (nI ap) (nI aq) (nI ad) (nI cnt) (nI na) sd rw rx tm tf sm sf), (rm 0, .inl (cI, 48, .inl (fun k_ => nI (tx k_)))), (rm 7, .inl (cI, 3, .inl f7)), (rm 8, .inl (cI, 15, .inl f8)), (rm 9, .inl (cI, 15, .inl f9))] rfl dX6_readThing_98 ?_
        have efld : (cur + 1 - 1 : Nat) = cur := by omega
        refine g_ws (ws2 := [(mo, o6 rm (nI tl) (nI cur) (nI np) (nI nq) (nI nd) rt (nI ap) (nI aq) (nI ad) (nI cnt) (nI na) sd rw rx tm tf sm sf), (rm 0, .inl (cI, 48, .inl (fun k_ => nI (tx k_)))), (rm 7, .inl (cI, 3, .inl f7)), (rm 8, .inl (cI, 15, .inl f8)), (rm 9, .inl (cI, 15, .inl f9))]) (congrArg (fun zz : Nat => ([(mo, o6 rm (nI tl) (nI zz) (nI np) (nI nq) (nI nd) rt (nI ap) (nI aq) (nI ad) (nI cnt) (nI na) sd rw rx tm tf sm sf), (rm 0, .inl (cI, 48, .inl (fun k_ => nI (tx k_)))), (rm 7, .inl (cI, 3, .inl f7)), (rm 8, .inl (cI, 15, .inl f8)), (rm 9, .inl (cI, 15, .inl f9))] : va_W)) efld) ?_
        refine g_iconst (v := nI 0) hC dX6_readThing_101 rfl ?_
        subst hQ
        refine g_zret (v := nI 0) hC (cur, ap, aq, ad, pu, P, f7, f8, f9) hr (by decide +kernel) ?_ rfl dX6_readThing_102
        have e : rdT tx tl (cur, ap, aq, ad, pu, P) = (false, cur, ap, aq, ad, pu, P) := by
          unfold rdT; dsimp only; rw [if_neg (by omega), if_neg (by omega), if_neg (by omega)]
        rw [e]; exact ⟨(bI_f (fun q => by cases q)).symm, rfl, hR⟩
      refine g_aload_n hC 0 dX6_readThing_71 rfl rfl ?_
      refine g_get (C := RX6) (T := TX6) (N := 38) (ci := 6) (v := .int (nI ad)) hC hcw6 0 rfl rfl 18 (by decide) w5 (fun _ h => h) rfl dX6_readThing_72 ?_
      refine g_iconst (v := nI 5) hC dX6_readThing_75 rfl ?_
      refine g_icmp_ge_n (a := ad) (b := 5) hC (by omega) (by omega) 91 dX6_readThing_76 (by decide) (fun h76t => ?_) (fun h76f => ?_)
      · refine g_aload_n hC 0 dX6_readThing_91 rfl rfl ?_
        refine g_dup hC dX6_readThing_92 rfl ?_
        refine g_get (C := RX6) (T := TX6) (N := 38) (ci := 6) (v := .int (nI (cur + 1))) hC hcw6 0 rfl rfl 3 (by decide) w2 (fun _ h => h) rfl dX6_readThing_93 ?_
        refine g_iconst (v := nI 1) hC dX6_readThing_96 rfl ?_
        refine g_isub_n (a := (cur + 1)) (b := 1) hC (by omega) dX6_readThing_97 ?_
        refine g_put (C := RX6) (T := TX6) (N := 38) (ci := 6) (v := .int (nI (cur + 1 - 1))) hC hcw6 tyX6 tyX6_ok nmX6 0 rfl rfl 3 (by decide) w2 (fun _ h => h) rfl (tyX6_ok 3 (by decide)) rfl rfl (Nat.le_of_ble_eq_true rfl) [(mo, o6 rm (nI tl) (nI (cur + 1 - 1)) (nI np) (nI nq) (nI nd) rt (nI ap) (nI aq) (nI ad) (nI cnt) (nI na) sd rw rx tm tf sm sf), (rm 0, .inl (cI, 48, .inl (fun k_ => nI (tx k_)))), (rm 7, .inl (cI, 3, .inl f7)), (rm 8, .inl (cI, 15, .inl f8)), (rm 9, .inl (cI, 15, .inl f9))] rfl dX6_readThing_98 ?_
        have efld : (cur + 1 - 1 : Nat) = cur := by omega
        refine g_ws (ws2 := [(mo, o6 rm (nI tl) (nI cur) (nI np) (nI nq) (nI nd) rt (nI ap) (nI aq) (nI ad) (nI cnt) (nI na) sd rw rx tm tf sm sf), (rm 0, .inl (cI, 48, .inl (fun k_ => nI (tx k_)))), (rm 7, .inl (cI, 3, .inl f7)), (rm 8, .inl (cI, 15, .inl f8)), (rm 9, .inl (cI, 15, .inl f9))]) (congrArg (fun zz : Nat => ([(mo, o6 rm (nI tl) (nI zz) (nI np) (nI nq) (nI nd) rt (nI ap) (nI aq) (nI ad) (nI cnt) (nI na) sd rw rx tm tf sm sf), (rm 0, .inl (cI, 48, .inl (fun k_ => nI (tx k_)))), (rm 7, .inl (cI, 3, .inl f7)), (rm 8, .inl (cI, 15, .inl f8)), (rm 9, .inl (cI, 15, .inl f9))] : va_W)) efld) ?_
        refine g_iconst (v := nI 0) hC dX6_readThing_101 rfl ?_
        subst hQ
        refine g_zret (v := nI 0) hC (cur, ap, aq, ad, pu, P, f7, f8, f9) hr (by decide +kernel) ?_ rfl dX6_readThing_102
        have e : rdT tx tl (cur, ap, aq, ad, pu, P) = (false, cur, ap, aq, ad, pu, P) := by
          unfold rdT; dsimp only; rw [if_neg (by omega), if_neg (by omega), if_neg (by omega)]
        rw [e]; exact ⟨(bI_f (fun q => by cases q)).symm, rfl, hR⟩
      refine g_aload_n hC 0 dX6_readThing_79 rfl rfl ?_
      refine g_get (C := RX6) (T := TX6) (N := 38) (ci := 6) (v := .int (nI aq)) hC hcw6 0 rfl rfl 16 (by decide) w4 (fun _ h => h) rfl dX6_readThing_80 ?_
      refine g_if_le_n (a := aq) hC (by omega) 91 dX6_readThing_83 (by decide) (fun h83t => ?_) (fun h83f => ?_)
      · refine g_aload_n hC 0 dX6_readThing_91 rfl rfl ?_
        refine g_dup hC dX6_readThing_92 rfl ?_
        refine g_get (C := RX6) (T := TX6) (N := 38) (ci := 6) (v := .int (nI (cur + 1))) hC hcw6 0 rfl rfl 3 (by decide) w2 (fun _ h => h) rfl dX6_readThing_93 ?_
        refine g_iconst (v := nI 1) hC dX6_readThing_96 rfl ?_
        refine g_isub_n (a := (cur + 1)) (b := 1) hC (by omega) dX6_readThing_97 ?_
        refine g_put (C := RX6) (T := TX6) (N := 38) (ci := 6) (v := .int (nI (cur + 1 - 1))) hC hcw6 tyX6 tyX6_ok nmX6 0 rfl rfl 3 (by decide) w2 (fun _ h => h) rfl (tyX6_ok 3 (by decide)) rfl rfl (Nat.le_of_ble_eq_true rfl) [(mo, o6 rm (nI tl) (nI (cur + 1 - 1)) (nI np) (nI nq) (nI nd) rt (nI ap) (nI aq) (nI ad) (nI cnt) (nI na) sd rw rx tm tf sm sf), (rm 0, .inl (cI, 48, .inl (fun k_ => nI (tx k_)))), (rm 7, .inl (cI, 3, .inl f7)), (rm 8, .inl (cI, 15, .inl f8)), (rm 9, .inl (cI, 15, .inl f9))] rfl dX6_readThing_98 ?_
        have efld : (cur + 1 - 1 : Nat) = cur := by omega
        refine g_ws (ws2 := [(mo, o6 rm (nI tl) (nI cur) (nI np) (nI nq) (nI nd) rt (nI ap) (nI aq) (nI ad) (nI cnt) (nI na) sd rw rx tm tf sm sf), (rm 0, .inl (cI, 48, .inl (fun k_ => nI (tx k_)))), (rm 7, .inl (cI, 3, .inl f7)), (rm 8, .inl (cI, 15, .inl f8)), (rm 9, .inl (cI, 15, .inl f9))]) (congrArg (fun zz : Nat => ([(mo, o6 rm (nI tl) (nI zz) (nI np) (nI nq) (nI nd) rt (nI ap) (nI aq) (nI ad) (nI cnt) (nI na) sd rw rx tm tf sm sf), (rm 0, .inl (cI, 48, .inl (fun k_ => nI (tx k_)))), (rm 7, .inl (cI, 3, .inl f7)), (rm 8, .inl (cI, 15, .inl f8)), (rm 9, .inl (cI, 15, .inl f9))] : va_W)) efld) ?_
        refine g_iconst (v := nI 0) hC dX6_readThing_101 rfl ?_
        subst hQ
        refine g_zret (v := nI 0) hC (cur, ap, aq, ad, pu, P, f7, f8, f9) hr (by decide +kernel) ?_ rfl dX6_readThing_102
        have e : rdT tx tl (cur, ap, aq, ad, pu, P) = (false, cur, ap, aq, ad, pu, P) := by
          unfold rdT; dsimp only; rw [if_neg (by omega), if_neg (by omega), if_neg (by omega)]
        rw [e]; exact ⟨(bI_f (fun q => by cases q)).symm, rfl, hR⟩
      refine g_aload_n hC 0 dX6_readThing_86 rfl rfl ?_
      refine g_callVi (As := []) (rest := []) hC (c_X6_readOneDeed l D cI cZ mo rm tl np nq nd rt cnt na sd rw rx tm tf sm sf tx (cur + 1) f7 f8 f9 ap aq ad pu P (by first | assumption | omega) (by first | assumption | omega) (by first | assumption | omega) (by first | assumption | omega) (by first | assumption | omega) (by first | assumption | omega) (by first | assumption | omega) (by first | assumption | omega) (by first | assumption | omega)) (cwV 0 hC.1.2.2.2.2 gX6_readThing_X6_readOneDeed rfl rfl rfl dV_X6_readOneDeed ⟨Nat.le_of_ble_eq_true rfl, Nat.le_of_ble_eq_true rfl⟩) rfl rfl rfl rfl (Nat.le_of_ble_eq_true rfl) dX6_readThing_87 ⟨Nat.le_of_ble_eq_true rfl, Nat.le_of_ble_eq_true rfl⟩ [0, 1, 2, 3, 4] [] [0, 1, 2, 3, 4] (fun (z : Nat × Nat × Nat × Nat × (Nat → Nat) × (Nat → Nat → Nat) × (Nat → Int32) × (Nat → Int32) × (Nat → Int32)) => match z with | (cur2_1, ap2_2, aq2_3, ad2_4, pu2_5, P2_6, f72_7, f82_8, f92_9) => [(mo, o6 rm (nI tl) (nI cur2_1) (nI np) (nI nq) (nI nd) rt (nI ap2_2) (nI aq2_3) (nI ad2_4) (nI cnt) (nI na) sd rw rx tm tf sm sf), (rm 0, .inl (cI, 48, .inl (fun k_ => nI (tx k_)))), (rm 7, .inl (cI, 3, .inl f72_7)), (rm 8, .inl (cI, 15, .inl f82_8)), (rm 9, .inl (cI, 15, .inl f92_9))]) rfl rfl rfl (fun _ => rfl) (fun r87 z87 hp87 => ?_)
      obtain ⟨cur2_1, ap2_2, aq2_3, ad2_4, pu2_5, P2_6, f72_7, f82_8, f92_9⟩ := z87
      try dsimp only at hp87
      refine g_is (ws2 := [(mo, o6 rm (nI tl) (nI cur2_1) (nI np) (nI nq) (nI nd) rt (nI ap2_2) (nI aq2_3) (nI ad2_4) (nI cnt) (nI na) sd rw rx tm tf sm sf), (rm 0, .inl (cI, 48, .inl (fun k_ => nI (tx k_)))), (rm 7, .inl (cI, 3, .inl f72_7)), (rm 8, .inl (cI, 15, .inl f82_8)), (rm 9, .inl (cI, 15, .inl f92_9))]) (lv2 := [(0, .ref mo), (1, .int (nI (tx cur)))]) (st2 := [.int r87]) rfl rfl rfl ?_
      refine g_top (y := bI ((rdD tx tl (cur + 1, ap, aq, ad, pu, P)).1 = true)) hp87.1 ?_
      subst hQ
      refine g_zret (v := bI ((rdD tx tl (cur + 1, ap, aq, ad, pu, P)).1 = true)) hC (cur2_1, ap2_2, aq2_3, ad2_4, pu2_5, P2_6, f72_7, f82_8, f92_9) hr bI_nar ?_ rfl dX6_readThing_90
      first
        | (exfalso; omega)
        | (have e : rdT tx tl (cur, ap, aq, ad, pu, P) = rdD tx tl (cur + 1, ap, aq, ad, pu, P) := by simp [rdT, *]
           rw [e]; exact ⟨rfl, hp87.2.1, hp87.2.2⟩)
    refine g_aload_n hC 0 dX6_readThing_45 rfl rfl ?_
    refine g_get (C := RX6) (T := TX6) (N := 38) (ci := 6) (v := .int (nI aq)) hC hcw6 0 rfl rfl 16 (by decide) w4 (fun _ h => h) rfl dX6_readThing_46 ?_
    refine g_iconst (v := nI 5) hC dX6_readThing_49 rfl ?_
    refine g_icmp_ge_n (a := aq) (b := 5) hC (by omega) (by omega) 65 dX6_readThing_50 (by decide) (fun h50t => ?_) (fun h50f => ?_)
    · refine g_iload_n hC 1 dX6_readThing_65 rfl rfl ?_
      refine g_bipush (v := nI 68) hC dX6_readThing_66 (by decide +kernel) ?_
      refine g_icmp_ne_n (a := (tx cur)) (b := 68) hC (by omega) (by omega) 91 dX6_readThing_68 (by decide) (fun h68t => ?_) (fun h68f => ?_)
      · refine g_aload_n hC 0 dX6_readThing_91 rfl rfl ?_
        refine g_dup hC dX6_readThing_92 rfl ?_
        refine g_get (C := RX6) (T := TX6) (N := 38) (ci := 6) (v := .int (nI (cur + 1))) hC hcw6 0 rfl rfl 3 (by decide) w2 (fun _ h => h) rfl dX6_readThing_93 ?_
        refine g_iconst (v := nI 1) hC dX6_readThing_96 rfl ?_
        refine g_isub_n (a := (cur + 1)) (b := 1) hC (by omega) dX6_readThing_97 ?_
        refine g_put (C := RX6) (T := TX6) (N := 38) (ci := 6) (v := .int (nI (cur + 1 - 1))) hC hcw6 tyX6 tyX6_ok nmX6 0 rfl rfl 3 (by decide) w2 (fun _ h => h) rfl (tyX6_ok 3 (by decide)) rfl rfl (Nat.le_of_ble_eq_true rfl) [(mo, o6 rm (nI tl) (nI (cur + 1 - 1)) (nI np) (nI nq) (nI nd) rt (nI ap) (nI aq) (nI ad) (nI cnt) (nI na) sd rw rx tm tf sm sf), (rm 0, .inl (cI, 48, .inl (fun k_ => nI (tx k_)))), (rm 7, .inl (cI, 3, .inl f7)), (rm 8, .inl (cI, 15, .inl f8)), (rm 9, .inl (cI, 15, .inl f9))] rfl dX6_readThing_98 ?_
        have efld : (cur + 1 - 1 : Nat) = cur := by omega
        refine g_ws (ws2 := [(mo, o6 rm (nI tl) (nI cur) (nI np) (nI nq) (nI nd) rt (nI ap) (nI aq) (nI ad) (nI cnt) (nI na) sd rw rx tm tf sm sf), (rm 0, .inl (cI, 48, .inl (fun k_ => nI (tx k_)))), (rm 7, .inl (cI, 3, .inl f7)), (rm 8, .inl (cI, 15, .inl f8)), (rm 9, .inl (cI, 15, .inl f9))]) (congrArg (fun zz : Nat => ([(mo, o6 rm (nI tl) (nI zz) (nI np) (nI nq) (nI nd) rt (nI ap) (nI aq) (nI ad) (nI cnt) (nI na) sd rw rx tm tf sm sf), (rm 0, .inl (cI, 48, .inl (fun k_ => nI (tx k_)))), (rm 7, .inl (cI, 3, .inl f7)), (rm 8, .inl (cI, 15, .inl f8)), (rm 9, .inl (cI, 15, .inl f9))] : va_W)) efld) ?_
        refine g_iconst (v := nI 0) hC dX6_readThing_101 rfl ?_
        subst hQ
        refine g_zret (v := nI 0) hC (cur, ap, aq, ad, pu, P, f7, f8, f9) hr (by decide +kernel) ?_ rfl dX6_readThing_102
        have e : rdT tx tl (cur, ap, aq, ad, pu, P) = (false, cur, ap, aq, ad, pu, P) := by
          unfold rdT; dsimp only; rw [if_neg (by omega), if_neg (by omega), if_neg (by omega)]
        rw [e]; exact ⟨(bI_f (fun q => by cases q)).symm, rfl, hR⟩
      refine g_aload_n hC 0 dX6_readThing_71 rfl rfl ?_
      refine g_get (C := RX6) (T := TX6) (N := 38) (ci := 6) (v := .int (nI ad)) hC hcw6 0 rfl rfl 18 (by decide) w5 (fun _ h => h) rfl dX6_readThing_72 ?_
      refine g_iconst (v := nI 5) hC dX6_readThing_75 rfl ?_
      refine g_icmp_ge_n (a := ad) (b := 5) hC (by omega) (by omega) 91 dX6_readThing_76 (by decide) (fun h76t => ?_) (fun h76f => ?_)
      · refine g_aload_n hC 0 dX6_readThing_91 rfl rfl ?_
        refine g_dup hC dX6_readThing_92 rfl ?_
        refine g_get (C := RX6) (T := TX6) (N := 38) (ci := 6) (v := .int (nI (cur + 1))) hC hcw6 0 rfl rfl 3 (by decide) w2 (fun _ h => h) rfl dX6_readThing_93 ?_
        refine g_iconst (v := nI 1) hC dX6_readThing_96 rfl ?_
        refine g_isub_n (a := (cur + 1)) (b := 1) hC (by omega) dX6_readThing_97 ?_
        refine g_put (C := RX6) (T := TX6) (N := 38) (ci := 6) (v := .int (nI (cur + 1 - 1))) hC hcw6 tyX6 tyX6_ok nmX6 0 rfl rfl 3 (by decide) w2 (fun _ h => h) rfl (tyX6_ok 3 (by decide)) rfl rfl (Nat.le_of_ble_eq_true rfl) [(mo, o6 rm (nI tl) (nI (cur + 1 - 1)) (nI np) (nI nq) (nI nd) rt (nI ap) (nI aq) (nI ad) (nI cnt) (nI na) sd rw rx tm tf sm sf), (rm 0, .inl (cI, 48, .inl (fun k_ => nI (tx k_)))), (rm 7, .inl (cI, 3, .inl f7)), (rm 8, .inl (cI, 15, .inl f8)), (rm 9, .inl (cI, 15, .inl f9))] rfl dX6_readThing_98 ?_
        have efld : (cur + 1 - 1 : Nat) = cur := by omega
        refine g_ws (ws2 := [(mo, o6 rm (nI tl) (nI cur) (nI np) (nI nq) (nI nd) rt (nI ap) (nI aq) (nI ad) (nI cnt) (nI na) sd rw rx tm tf sm sf), (rm 0, .inl (cI, 48, .inl (fun k_ => nI (tx k_)))), (rm 7, .inl (cI, 3, .inl f7)), (rm 8, .inl (cI, 15, .inl f8)), (rm 9, .inl (cI, 15, .inl f9))]) (congrArg (fun zz : Nat => ([(mo, o6 rm (nI tl) (nI zz) (nI np) (nI nq) (nI nd) rt (nI ap) (nI aq) (nI ad) (nI cnt) (nI na) sd rw rx tm tf sm sf), (rm 0, .inl (cI, 48, .inl (fun k_ => nI (tx k_)))), (rm 7, .inl (cI, 3, .inl f7)), (rm 8, .inl (cI, 15, .inl f8)), (rm 9, .inl (cI, 15, .inl f9))] : va_W)) efld) ?_
        refine g_iconst (v := nI 0) hC dX6_readThing_101 rfl ?_
        subst hQ
        refine g_zret (v := nI 0) hC (cur, ap, aq, ad, pu, P, f7, f8, f9) hr (by decide +kernel) ?_ rfl dX6_readThing_102
        have e : rdT tx tl (cur, ap, aq, ad, pu, P) = (false, cur, ap, aq, ad, pu, P) := by
          unfold rdT; dsimp only; rw [if_neg (by omega), if_neg (by omega), if_neg (by omega)]
        rw [e]; exact ⟨(bI_f (fun q => by cases q)).symm, rfl, hR⟩
      refine g_aload_n hC 0 dX6_readThing_79 rfl rfl ?_
      refine g_get (C := RX6) (T := TX6) (N := 38) (ci := 6) (v := .int (nI aq)) hC hcw6 0 rfl rfl 16 (by decide) w4 (fun _ h => h) rfl dX6_readThing_80 ?_
      refine g_if_le_n (a := aq) hC (by omega) 91 dX6_readThing_83 (by decide) (fun h83t => ?_) (fun h83f => ?_)
      · refine g_aload_n hC 0 dX6_readThing_91 rfl rfl ?_
        refine g_dup hC dX6_readThing_92 rfl ?_
        refine g_get (C := RX6) (T := TX6) (N := 38) (ci := 6) (v := .int (nI (cur + 1))) hC hcw6 0 rfl rfl 3 (by decide) w2 (fun _ h => h) rfl dX6_readThing_93 ?_
        refine g_iconst (v := nI 1) hC dX6_readThing_96 rfl ?_
        refine g_isub_n (a := (cur + 1)) (b := 1) hC (by omega) dX6_readThing_97 ?_
        refine g_put (C := RX6) (T := TX6) (N := 38) (ci := 6) (v := .int (nI (cur + 1 - 1))) hC hcw6 tyX6 tyX6_ok nmX6 0 rfl rfl 3 (by decide) w2 (fun _ h => h) rfl (tyX6_ok 3 (by decide)) rfl rfl (Nat.le_of_ble_eq_true rfl) [(mo, o6 rm (nI tl) (nI (cur + 1 - 1)) (nI np) (nI nq) (nI nd) rt (nI ap) (nI aq) (nI ad) (nI cnt) (nI na) sd rw rx tm tf sm sf), (rm 0, .inl (cI, 48, .inl (fun k_ => nI (tx k_)))), (rm 7, .inl (cI, 3, .inl f7)), (rm 8, .inl (cI, 15, .inl f8)), (rm 9, .inl (cI, 15, .inl f9))] rfl dX6_readThing_98 ?_
        have efld : (cur + 1 - 1 : Nat) = cur := by omega
        refine g_ws (ws2 := [(mo, o6 rm (nI tl) (nI cur) (nI np) (nI nq) (nI nd) rt (nI ap) (nI aq) (nI ad) (nI cnt) (nI na) sd rw rx tm tf sm sf), (rm 0, .inl (cI, 48, .inl (fun k_ => nI (tx k_)))), (rm 7, .inl (cI, 3, .inl f7)), (rm 8, .inl (cI, 15, .inl f8)), (rm 9, .inl (cI, 15, .inl f9))]) (congrArg (fun zz : Nat => ([(mo, o6 rm (nI tl) (nI zz) (nI np) (nI nq) (nI nd) rt (nI ap) (nI aq) (nI ad) (nI cnt) (nI na) sd rw rx tm tf sm sf), (rm 0, .inl (cI, 48, .inl (fun k_ => nI (tx k_)))), (rm 7, .inl (cI, 3, .inl f7)), (rm 8, .inl (cI, 15, .inl f8)), (rm 9, .inl (cI, 15, .inl f9))] : va_W)) efld) ?_
        refine g_iconst (v := nI 0) hC dX6_readThing_101 rfl ?_
        subst hQ
        refine g_zret (v := nI 0) hC (cur, ap, aq, ad, pu, P, f7, f8, f9) hr (by decide +kernel) ?_ rfl dX6_readThing_102
        have e : rdT tx tl (cur, ap, aq, ad, pu, P) = (false, cur, ap, aq, ad, pu, P) := by
          unfold rdT; dsimp only; rw [if_neg (by omega), if_neg (by omega), if_neg (by omega)]
        rw [e]; exact ⟨(bI_f (fun q => by cases q)).symm, rfl, hR⟩
      refine g_aload_n hC 0 dX6_readThing_86 rfl rfl ?_
      refine g_callVi (As := []) (rest := []) hC (c_X6_readOneDeed l D cI cZ mo rm tl np nq nd rt cnt na sd rw rx tm tf sm sf tx (cur + 1) f7 f8 f9 ap aq ad pu P (by first | assumption | omega) (by first | assumption | omega) (by first | assumption | omega) (by first | assumption | omega) (by first | assumption | omega) (by first | assumption | omega) (by first | assumption | omega) (by first | assumption | omega) (by first | assumption | omega)) (cwV 0 hC.1.2.2.2.2 gX6_readThing_X6_readOneDeed rfl rfl rfl dV_X6_readOneDeed ⟨Nat.le_of_ble_eq_true rfl, Nat.le_of_ble_eq_true rfl⟩) rfl rfl rfl rfl (Nat.le_of_ble_eq_true rfl) dX6_readThing_87 ⟨Nat.le_of_ble_eq_true rfl, Nat.le_of_ble_eq_true rfl⟩ [0, 1, 2, 3, 4] [] [0, 1, 2, 3, 4] (fun (z : Nat × Nat × Nat × Nat × (Nat → Nat) × (Nat → Nat → Nat) × (Nat → Int32) × (Nat → Int32) × (Nat → Int32)) => match z with | (cur2_10, ap2_11, aq2_12, ad2_13, pu2_14, P2_15, f72_16, f82_17, f92_18) => [(mo, o6 rm (nI tl) (nI cur2_10) (nI np) (nI nq) (nI nd) rt (nI ap2_11) (nI aq2_12) (nI ad2_13) (nI cnt) (nI na) sd rw rx tm tf sm sf), (rm 0, .inl (cI, 48, .inl (fun k_ => nI (tx k_)))), (rm 7, .inl (cI, 3, .inl f72_16)), (rm 8, .inl (cI, 15, .inl f82_17)), (rm 9, .inl (cI, 15, .inl f92_18))]) rfl rfl rfl (fun _ => rfl) (fun r87 z87 hp87 => ?_)
      obtain ⟨cur2_10, ap2_11, aq2_12, ad2_13, pu2_14, P2_15, f72_16, f82_17, f92_18⟩ := z87
      try dsimp only at hp87
      refine g_is (ws2 := [(mo, o6 rm (nI tl) (nI cur2_10) (nI np) (nI nq) (nI nd) rt (nI ap2_11) (nI aq2_12) (nI ad2_13) (nI cnt) (nI na) sd rw rx tm tf sm sf), (rm 0, .inl (cI, 48, .inl (fun k_ => nI (tx k_)))), (rm 7, .inl (cI, 3, .inl f72_16)), (rm 8, .inl (cI, 15, .inl f82_17)), (rm 9, .inl (cI, 15, .inl f92_18))]) (lv2 := [(0, .ref mo), (1, .int (nI (tx cur)))]) (st2 := [.int r87]) rfl rfl rfl ?_
      refine g_top (y := bI ((rdD tx tl (cur + 1, ap, aq, ad, pu, P)).1 = true)) hp87.1 ?_
      subst hQ
      refine g_zret (v := bI ((rdD tx tl (cur + 1, ap, aq, ad, pu, P)).1 = true)) hC (cur2_10, ap2_11, aq2_12, ad2_13, pu2_14, P2_15, f72_16, f82_17, f92_18) hr bI_nar ?_ rfl dX6_readThing_90
      first
        | (exfalso; omega)
        | (have e : rdT tx tl (cur, ap, aq, ad, pu, P) = rdD tx tl (cur + 1, ap, aq, ad, pu, P) := by simp [rdT, *]
           rw [e]; exact ⟨rfl, hp87.2.1, hp87.2.2⟩)
    refine g_aload_n hC 0 dX6_readThing_53 rfl rfl ?_
    refine g_get (C := RX6) (T := TX6) (N := 38) (ci := 6) (v := .int (nI ap)) hC hcw6 0 rfl rfl 14 (by decide) w3 (fun _ h => h) rfl dX6_readThing_54 ?_
    refine g_if_le_n (a := ap) hC (by omega) 65 dX6_readThing_57 (by decide) (fun h57t => ?_) (fun h57f => ?_)
    · refine g_iload_n hC 1 dX6_readThing_65 rfl rfl ?_
      refine g_bipush (v := nI 68) hC dX6_readThing_66 (by decide +kernel) ?_
      refine g_icmp_ne_n (a := (tx cur)) (b := 68) hC (by omega) (by omega) 91 dX6_readThing_68 (by decide) (fun h68t => ?_) (fun h68f => ?_)
      · refine g_aload_n hC 0 dX6_readThing_91 rfl rfl ?_
        refine g_dup hC dX6_readThing_92 rfl ?_
        refine g_get (C := RX6) (T := TX6) (N := 38) (ci := 6) (v := .int (nI (cur + 1))) hC hcw6 0 rfl rfl 3 (by decide) w2 (fun _ h => h) rfl dX6_readThing_93 ?_
        refine g_iconst (v := nI 1) hC dX6_readThing_96 rfl ?_
        refine g_isub_n (a := (cur + 1)) (b := 1) hC (by omega) dX6_readThing_97 ?_
        refine g_put (C := RX6) (T := TX6) (N := 38) (ci := 6) (v := .int (nI (cur + 1 - 1))) hC hcw6 tyX6 tyX6_ok nmX6 0 rfl rfl 3 (by decide) w2 (fun _ h => h) rfl (tyX6_ok 3 (by decide)) rfl rfl (Nat.le_of_ble_eq_true rfl) [(mo, o6 rm (nI tl) (nI (cur + 1 - 1)) (nI np) (nI nq) (nI nd) rt (nI ap) (nI aq) (nI ad) (nI cnt) (nI na) sd rw rx tm tf sm sf), (rm 0, .inl (cI, 48, .inl (fun k_ => nI (tx k_)))), (rm 7, .inl (cI, 3, .inl f7)), (rm 8, .inl (cI, 15, .inl f8)), (rm 9, .inl (cI, 15, .inl f9))] rfl dX6_readThing_98 ?_
        have efld : (cur + 1 - 1 : Nat) = cur := by omega
        refine g_ws (ws2 := [(mo, o6 rm (nI tl) (nI cur) (nI np) (nI nq) (nI nd) rt (nI ap) (nI aq) (nI ad) (nI cnt) (nI na) sd rw rx tm tf sm sf), (rm 0, .inl (cI, 48, .inl (fun k_ => nI (tx k_)))), (rm 7, .inl (cI, 3, .inl f7)), (rm 8, .inl (cI, 15, .inl f8)), (rm 9, .inl (cI, 15, .inl f9))]) (congrArg (fun zz : Nat => ([(mo, o6 rm (nI tl) (nI zz) (nI np) (nI nq) (nI nd) rt (nI ap) (nI aq) (nI ad) (nI cnt) (nI na) sd rw rx tm tf sm sf), (rm 0, .inl (cI, 48, .inl (fun k_ => nI (tx k_)))), (rm 7, .inl (cI, 3, .inl f7)), (rm 8, .inl (cI, 15, .inl f8)), (rm 9, .inl (cI, 15, .inl f9))] : va_W)) efld) ?_
        refine g_iconst (v := nI 0) hC dX6_readThing_101 rfl ?_
        subst hQ
        refine g_zret (v := nI 0) hC (cur, ap, aq, ad, pu, P, f7, f8, f9) hr (by decide +kernel) ?_ rfl dX6_readThing_102
        have e : rdT tx tl (cur, ap, aq, ad, pu, P) = (false, cur, ap, aq, ad, pu, P) := by
          unfold rdT; dsimp only; rw [if_neg (by omega), if_neg (by omega), if_neg (by omega)]
        rw [e]; exact ⟨(bI_f (fun q => by cases q)).symm, rfl, hR⟩
      refine g_aload_n hC 0 dX6_readThing_71 rfl rfl ?_
      refine g_get (C := RX6) (T := TX6) (N := 38) (ci := 6) (v := .int (nI ad)) hC hcw6 0 rfl rfl 18 (by decide) w5 (fun _ h => h) rfl dX6_readThing_72 ?_
      refine g_iconst (v := nI 5) hC dX6_readThing_75 rfl ?_
      refine g_icmp_ge_n (a := ad) (b := 5) hC (by omega) (by omega) 91 dX6_readThing_76 (by decide) (fun h76t => ?_) (fun h76f => ?_)
      · refine g_aload_n hC 0 dX6_readThing_91 rfl rfl ?_
        refine g_dup hC dX6_readThing_92 rfl ?_
        refine g_get (C := RX6) (T := TX6) (N := 38) (ci := 6) (v := .int (nI (cur + 1))) hC hcw6 0 rfl rfl 3 (by decide) w2 (fun _ h => h) rfl dX6_readThing_93 ?_
        refine g_iconst (v := nI 1) hC dX6_readThing_96 rfl ?_
        refine g_isub_n (a := (cur + 1)) (b := 1) hC (by omega) dX6_readThing_97 ?_
        refine g_put (C := RX6) (T := TX6) (N := 38) (ci := 6) (v := .int (nI (cur + 1 - 1))) hC hcw6 tyX6 tyX6_ok nmX6 0 rfl rfl 3 (by decide) w2 (fun _ h => h) rfl (tyX6_ok 3 (by decide)) rfl rfl (Nat.le_of_ble_eq_true rfl) [(mo, o6 rm (nI tl) (nI (cur + 1 - 1)) (nI np) (nI nq) (nI nd) rt (nI ap) (nI aq) (nI ad) (nI cnt) (nI na) sd rw rx tm tf sm sf), (rm 0, .inl (cI, 48, .inl (fun k_ => nI (tx k_)))), (rm 7, .inl (cI, 3, .inl f7)), (rm 8, .inl (cI, 15, .inl f8)), (rm 9, .inl (cI, 15, .inl f9))] rfl dX6_readThing_98 ?_
        have efld : (cur + 1 - 1 : Nat) = cur := by omega
        refine g_ws (ws2 := [(mo, o6 rm (nI tl) (nI cur) (nI np) (nI nq) (nI nd) rt (nI ap) (nI aq) (nI ad) (nI cnt) (nI na) sd rw rx tm tf sm sf), (rm 0, .inl (cI, 48, .inl (fun k_ => nI (tx k_)))), (rm 7, .inl (cI, 3, .inl f7)), (rm 8, .inl (cI, 15, .inl f8)), (rm 9, .inl (cI, 15, .inl f9))]) (congrArg (fun zz : Nat => ([(mo, o6 rm (nI tl) (nI zz) (nI np) (nI nq) (nI nd) rt (nI ap) (nI aq) (nI ad) (nI cnt) (nI na) sd rw rx tm tf sm sf), (rm 0, .inl (cI, 48, .inl (fun k_ => nI (tx k_)))), (rm 7, .inl (cI, 3, .inl f7)), (rm 8, .inl (cI, 15, .inl f8)), (rm 9, .inl (cI, 15, .inl f9))] : va_W)) efld) ?_
        refine g_iconst (v := nI 0) hC dX6_readThing_101 rfl ?_
        subst hQ
        refine g_zret (v := nI 0) hC (cur, ap, aq, ad, pu, P, f7, f8, f9) hr (by decide +kernel) ?_ rfl dX6_readThing_102
        have e : rdT tx tl (cur, ap, aq, ad, pu, P) = (false, cur, ap, aq, ad, pu, P) := by
          unfold rdT; dsimp only; rw [if_neg (by omega), if_neg (by omega), if_neg (by omega)]
        rw [e]; exact ⟨(bI_f (fun q => by cases q)).symm, rfl, hR⟩
      refine g_aload_n hC 0 dX6_readThing_79 rfl rfl ?_
      refine g_get (C := RX6) (T := TX6) (N := 38) (ci := 6) (v := .int (nI aq)) hC hcw6 0 rfl rfl 16 (by decide) w4 (fun _ h => h) rfl dX6_readThing_80 ?_
      refine g_if_le_n (a := aq) hC (by omega) 91 dX6_readThing_83 (by decide) (fun h83t => ?_) (fun h83f => ?_)
      · refine g_aload_n hC 0 dX6_readThing_91 rfl rfl ?_
        refine g_dup hC dX6_readThing_92 rfl ?_
        refine g_get (C := RX6) (T := TX6) (N := 38) (ci := 6) (v := .int (nI (cur + 1))) hC hcw6 0 rfl rfl 3 (by decide) w2 (fun _ h => h) rfl dX6_readThing_93 ?_
        refine g_iconst (v := nI 1) hC dX6_readThing_96 rfl ?_
        refine g_isub_n (a := (cur + 1)) (b := 1) hC (by omega) dX6_readThing_97 ?_
        refine g_put (C := RX6) (T := TX6) (N := 38) (ci := 6) (v := .int (nI (cur + 1 - 1))) hC hcw6 tyX6 tyX6_ok nmX6 0 rfl rfl 3 (by decide) w2 (fun _ h => h) rfl (tyX6_ok 3 (by decide)) rfl rfl (Nat.le_of_ble_eq_true rfl) [(mo, o6 rm (nI tl) (nI (cur + 1 - 1)) (nI np) (nI nq) (nI nd) rt (nI ap) (nI aq) (nI ad) (nI cnt) (nI na) sd rw rx tm tf sm sf), (rm 0, .inl (cI, 48, .inl (fun k_ => nI (tx k_)))), (rm 7, .inl (cI, 3, .inl f7)), (rm 8, .inl (cI, 15, .inl f8)), (rm 9, .inl (cI, 15, .inl f9))] rfl dX6_readThing_98 ?_
        have efld : (cur + 1 - 1 : Nat) = cur := by omega
        refine g_ws (ws2 := [(mo, o6 rm (nI tl) (nI cur) (nI np) (nI nq) (nI nd) rt (nI ap) (nI aq) (nI ad) (nI cnt) (nI na) sd rw rx tm tf sm sf), (rm 0, .inl (cI, 48, .inl (fun k_ => nI (tx k_)))), (rm 7, .inl (cI, 3, .inl f7)), (rm 8, .inl (cI, 15, .inl f8)), (rm 9, .inl (cI, 15, .inl f9))]) (congrArg (fun zz : Nat => ([(mo, o6 rm (nI tl) (nI zz) (nI np) (nI nq) (nI nd) rt (nI ap) (nI aq) (nI ad) (nI cnt) (nI na) sd rw rx tm tf sm sf), (rm 0, .inl (cI, 48, .inl (fun k_ => nI (tx k_)))), (rm 7, .inl (cI, 3, .inl f7)), (rm 8, .inl (cI, 15, .inl f8)), (rm 9, .inl (cI, 15, .inl f9))] : va_W)) efld) ?_
        refine g_iconst (v := nI 0) hC dX6_readThing_101 rfl ?_
        subst hQ
        refine g_zret (v := nI 0) hC (cur, ap, aq, ad, pu, P, f7, f8, f9) hr (by decide +kernel) ?_ rfl dX6_readThing_102
        have e : rdT tx tl (cur, ap, aq, ad, pu, P) = (false, cur, ap, aq, ad, pu, P) := by
          unfold rdT; dsimp only; rw [if_neg (by omega), if_neg (by omega), if_neg (by omega)]
        rw [e]; exact ⟨(bI_f (fun q => by cases q)).symm, rfl, hR⟩
      refine g_aload_n hC 0 dX6_readThing_86 rfl rfl ?_
      refine g_callVi (As := []) (rest := []) hC (c_X6_readOneDeed l D cI cZ mo rm tl np nq nd rt cnt na sd rw rx tm tf sm sf tx (cur + 1) f7 f8 f9 ap aq ad pu P (by first | assumption | omega) (by first | assumption | omega) (by first | assumption | omega) (by first | assumption | omega) (by first | assumption | omega) (by first | assumption | omega) (by first | assumption | omega) (by first | assumption | omega) (by first | assumption | omega)) (cwV 0 hC.1.2.2.2.2 gX6_readThing_X6_readOneDeed rfl rfl rfl dV_X6_readOneDeed ⟨Nat.le_of_ble_eq_true rfl, Nat.le_of_ble_eq_true rfl⟩) rfl rfl rfl rfl (Nat.le_of_ble_eq_true rfl) dX6_readThing_87 ⟨Nat.le_of_ble_eq_true rfl, Nat.le_of_ble_eq_true rfl⟩ [0, 1, 2, 3, 4] [] [0, 1, 2, 3, 4] (fun (z : Nat × Nat × Nat × Nat × (Nat → Nat) × (Nat → Nat → Nat) × (Nat → Int32) × (Nat → Int32) × (Nat → Int32)) => match z with | (cur2_19, ap2_20, aq2_21, ad2_22, pu2_23, P2_24, f72_25, f82_26, f92_27) => [(mo, o6 rm (nI tl) (nI cur2_19) (nI np) (nI nq) (nI nd) rt (nI ap2_20) (nI aq2_21) (nI ad2_22) (nI cnt) (nI na) sd rw rx tm tf sm sf), (rm 0, .inl (cI, 48, .inl (fun k_ => nI (tx k_)))), (rm 7, .inl (cI, 3, .inl f72_25)), (rm 8, .inl (cI, 15, .inl f82_26)), (rm 9, .inl (cI, 15, .inl f92_27))]) rfl rfl rfl (fun _ => rfl) (fun r87 z87 hp87 => ?_)
      obtain ⟨cur2_19, ap2_20, aq2_21, ad2_22, pu2_23, P2_24, f72_25, f82_26, f92_27⟩ := z87
      try dsimp only at hp87
      refine g_is (ws2 := [(mo, o6 rm (nI tl) (nI cur2_19) (nI np) (nI nq) (nI nd) rt (nI ap2_20) (nI aq2_21) (nI ad2_22) (nI cnt) (nI na) sd rw rx tm tf sm sf), (rm 0, .inl (cI, 48, .inl (fun k_ => nI (tx k_)))), (rm 7, .inl (cI, 3, .inl f72_25)), (rm 8, .inl (cI, 15, .inl f82_26)), (rm 9, .inl (cI, 15, .inl f92_27))]) (lv2 := [(0, .ref mo), (1, .int (nI (tx cur)))]) (st2 := [.int r87]) rfl rfl rfl ?_
      refine g_top (y := bI ((rdD tx tl (cur + 1, ap, aq, ad, pu, P)).1 = true)) hp87.1 ?_
      subst hQ
      refine g_zret (v := bI ((rdD tx tl (cur + 1, ap, aq, ad, pu, P)).1 = true)) hC (cur2_19, ap2_20, aq2_21, ad2_22, pu2_23, P2_24, f72_25, f82_26, f92_27) hr bI_nar ?_ rfl dX6_readThing_90
      first
        | (exfalso; omega)
        | (have e : rdT tx tl (cur, ap, aq, ad, pu, P) = rdD tx tl (cur + 1, ap, aq, ad, pu, P) := by simp [rdT, *]
           rw [e]; exact ⟨rfl, hp87.2.1, hp87.2.2⟩)
    refine g_aload_n hC 0 dX6_readThing_60 rfl rfl ?_
    refine g_callVi (As := []) (rest := []) hC (c_X6_readOneQuality l D cI cZ mo rm tl np nq nd rt cnt na sd rw rx tm tf sm sf tx (cur + 1) f7 f8 f9 ap aq ad pu P (by first | assumption | omega) (by first | assumption | omega) (by first | assumption | omega) (by first | assumption | omega) (by first | assumption | omega) (by first | assumption | omega) (by first | assumption | omega) (by first | assumption | omega) (by first | assumption | omega)) (cwV 0 hC.1.2.2.2.2 gX6_readThing_X6_readOneQuality rfl rfl rfl dV_X6_readOneQuality ⟨Nat.le_of_ble_eq_true rfl, Nat.le_of_ble_eq_true rfl⟩) rfl rfl rfl rfl (Nat.le_of_ble_eq_true rfl) dX6_readThing_61 ⟨Nat.le_of_ble_eq_true rfl, Nat.le_of_ble_eq_true rfl⟩ [0, 1, 2, 3, 4] [] [0, 1, 2, 3, 4] (fun (z : Nat × Nat × Nat × Nat × (Nat → Nat) × (Nat → Nat → Nat) × (Nat → Int32) × (Nat → Int32) × (Nat → Int32)) => match z with | (cur2_28, ap2_29, aq2_30, ad2_31, pu2_32, P2_33, f72_34, f82_35, f92_36) => [(mo, o6 rm (nI tl) (nI cur2_28) (nI np) (nI nq) (nI nd) rt (nI ap2_29) (nI aq2_30) (nI ad2_31) (nI cnt) (nI na) sd rw rx tm tf sm sf), (rm 0, .inl (cI, 48, .inl (fun k_ => nI (tx k_)))), (rm 7, .inl (cI, 3, .inl f72_34)), (rm 8, .inl (cI, 15, .inl f82_35)), (rm 9, .inl (cI, 15, .inl f92_36))]) rfl rfl rfl (fun _ => rfl) (fun r61 z61 hp61 => ?_)
    obtain ⟨cur2_28, ap2_29, aq2_30, ad2_31, pu2_32, P2_33, f72_34, f82_35, f92_36⟩ := z61
    try dsimp only at hp61
    refine g_is (ws2 := [(mo, o6 rm (nI tl) (nI cur2_28) (nI np) (nI nq) (nI nd) rt (nI ap2_29) (nI aq2_30) (nI ad2_31) (nI cnt) (nI na) sd rw rx tm tf sm sf), (rm 0, .inl (cI, 48, .inl (fun k_ => nI (tx k_)))), (rm 7, .inl (cI, 3, .inl f72_34)), (rm 8, .inl (cI, 15, .inl f82_35)), (rm 9, .inl (cI, 15, .inl f92_36))]) (lv2 := [(0, .ref mo), (1, .int (nI (tx cur)))]) (st2 := [.int r61]) rfl rfl rfl ?_
    refine g_top (y := bI ((rdQ tx tl (cur + 1, ap, aq, ad, pu, P)).1 = true)) hp61.1 ?_
    subst hQ
    refine g_zret (v := bI ((rdQ tx tl (cur + 1, ap, aq, ad, pu, P)).1 = true)) hC (cur2_28, ap2_29, aq2_30, ad2_31, pu2_32, P2_33, f72_34, f82_35, f92_36) hr bI_nar ?_ rfl dX6_readThing_64
    first
      | (exfalso; omega)
      | (have e : rdT tx tl (cur, ap, aq, ad, pu, P) = rdQ tx tl (cur + 1, ap, aq, ad, pu, P) := by simp [rdT, *]
         rw [e]; exact ⟨rfl, hp61.2.1, hp61.2.2⟩)
  refine g_aload_n hC 0 dX6_readThing_26 rfl rfl ?_
  refine g_get (C := RX6) (T := TX6) (N := 38) (ci := 6) (v := .int (nI ap)) hC hcw6 0 rfl rfl 14 (by decide) w3 (fun _ h => h) rfl dX6_readThing_27 ?_
  refine g_iconst (v := nI 3) hC dX6_readThing_30 rfl ?_
  refine g_icmp_ge_n (a := ap) (b := 3) hC (by omega) (by omega) 39 dX6_readThing_31 (by decide) (fun h31t => ?_) (fun h31f => ?_)
  · refine g_iload_n hC 1 dX6_readThing_39 rfl rfl ?_
    refine g_bipush (v := nI 81) hC dX6_readThing_40 (by decide +kernel) ?_
    refine g_icmp_ne_n (a := (tx cur)) (b := 81) hC (by omega) (by omega) 65 dX6_readThing_42 (by decide) (fun h42t => ?_) (fun h42f => ?_)
    · refine g_iload_n hC 1 dX6_readThing_65 rfl rfl ?_
      refine g_bipush (v := nI 68) hC dX6_readThing_66 (by decide +kernel) ?_
      refine g_icmp_ne_n (a := (tx cur)) (b := 68) hC (by omega) (by omega) 91 dX6_readThing_68 (by decide) (fun h68t => ?_) (fun h68f => ?_)
      · refine g_aload_n hC 0 dX6_readThing_91 rfl rfl ?_
        refine g_dup hC dX6_readThing_92 rfl ?_
        refine g_get (C := RX6) (T := TX6) (N := 38) (ci := 6) (v := .int (nI (cur + 1))) hC hcw6 0 rfl rfl 3 (by decide) w2 (fun _ h => h) rfl dX6_readThing_93 ?_
        refine g_iconst (v := nI 1) hC dX6_readThing_96 rfl ?_
        refine g_isub_n (a := (cur + 1)) (b := 1) hC (by omega) dX6_readThing_97 ?_
        refine g_put (C := RX6) (T := TX6) (N := 38) (ci := 6) (v := .int (nI (cur + 1 - 1))) hC hcw6 tyX6 tyX6_ok nmX6 0 rfl rfl 3 (by decide) w2 (fun _ h => h) rfl (tyX6_ok 3 (by decide)) rfl rfl (Nat.le_of_ble_eq_true rfl) [(mo, o6 rm (nI tl) (nI (cur + 1 - 1)) (nI np) (nI nq) (nI nd) rt (nI ap) (nI aq) (nI ad) (nI cnt) (nI na) sd rw rx tm tf sm sf), (rm 0, .inl (cI, 48, .inl (fun k_ => nI (tx k_)))), (rm 7, .inl (cI, 3, .inl f7)), (rm 8, .inl (cI, 15, .inl f8)), (rm 9, .inl (cI, 15, .inl f9))] rfl dX6_readThing_98 ?_
        have efld : (cur + 1 - 1 : Nat) = cur := by omega
        refine g_ws (ws2 := [(mo, o6 rm (nI tl) (nI cur) (nI np) (nI nq) (nI nd) rt (nI ap) (nI aq) (nI ad) (nI cnt) (nI na) sd rw rx tm tf sm sf), (rm 0, .inl (cI, 48, .inl (fun k_ => nI (tx k_)))), (rm 7, .inl (cI, 3, .inl f7)), (rm 8, .inl (cI, 15, .inl f8)), (rm 9, .inl (cI, 15, .inl f9))]) (congrArg (fun zz : Nat => ([(mo, o6 rm (nI tl) (nI zz) (nI np) (nI nq) (nI nd) rt (nI ap) (nI aq) (nI ad) (nI cnt) (nI na) sd rw rx tm tf sm sf), (rm 0, .inl (cI, 48, .inl (fun k_ => nI (tx k_)))), (rm 7, .inl (cI, 3, .inl f7)), (rm 8, .inl (cI, 15, .inl f8)), (rm 9, .inl (cI, 15, .inl f9))] : va_W)) efld) ?_
        refine g_iconst (v := nI 0) hC dX6_readThing_101 rfl ?_
        subst hQ
        refine g_zret (v := nI 0) hC (cur, ap, aq, ad, pu, P, f7, f8, f9) hr (by decide +kernel) ?_ rfl dX6_readThing_102
        have e : rdT tx tl (cur, ap, aq, ad, pu, P) = (false, cur, ap, aq, ad, pu, P) := by
          unfold rdT; dsimp only; rw [if_neg (by omega), if_neg (by omega), if_neg (by omega)]
        rw [e]; exact ⟨(bI_f (fun q => by cases q)).symm, rfl, hR⟩
      refine g_aload_n hC 0 dX6_readThing_71 rfl rfl ?_
      refine g_get (C := RX6) (T := TX6) (N := 38) (ci := 6) (v := .int (nI ad)) hC hcw6 0 rfl rfl 18 (by decide) w5 (fun _ h => h) rfl dX6_readThing_72 ?_
      refine g_iconst (v := nI 5) hC dX6_readThing_75 rfl ?_
      refine g_icmp_ge_n (a := ad) (b := 5) hC (by omega) (by omega) 91 dX6_readThing_76 (by decide) (fun h76t => ?_) (fun h76f => ?_)
      · refine g_aload_n hC 0 dX6_readThing_91 rfl rfl ?_
        refine g_dup hC dX6_readThing_92 rfl ?_
        refine g_get (C := RX6) (T := TX6) (N := 38) (ci := 6) (v := .int (nI (cur + 1))) hC hcw6 0 rfl rfl 3 (by decide) w2 (fun _ h => h) rfl dX6_readThing_93 ?_
        refine g_iconst (v := nI 1) hC dX6_readThing_96 rfl ?_
        refine g_isub_n (a := (cur + 1)) (b := 1) hC (by omega) dX6_readThing_97 ?_
        refine g_put (C := RX6) (T := TX6) (N := 38) (ci := 6) (v := .int (nI (cur + 1 - 1))) hC hcw6 tyX6 tyX6_ok nmX6 0 rfl rfl 3 (by decide) w2 (fun _ h => h) rfl (tyX6_ok 3 (by decide)) rfl rfl (Nat.le_of_ble_eq_true rfl) [(mo, o6 rm (nI tl) (nI (cur + 1 - 1)) (nI np) (nI nq) (nI nd) rt (nI ap) (nI aq) (nI ad) (nI cnt) (nI na) sd rw rx tm tf sm sf), (rm 0, .inl (cI, 48, .inl (fun k_ => nI (tx k_)))), (rm 7, .inl (cI, 3, .inl f7)), (rm 8, .inl (cI, 15, .inl f8)), (rm 9, .inl (cI, 15, .inl f9))] rfl dX6_readThing_98 ?_
        have efld : (cur + 1 - 1 : Nat) = cur := by omega
        refine g_ws (ws2 := [(mo, o6 rm (nI tl) (nI cur) (nI np) (nI nq) (nI nd) rt (nI ap) (nI aq) (nI ad) (nI cnt) (nI na) sd rw rx tm tf sm sf), (rm 0, .inl (cI, 48, .inl (fun k_ => nI (tx k_)))), (rm 7, .inl (cI, 3, .inl f7)), (rm 8, .inl (cI, 15, .inl f8)), (rm 9, .inl (cI, 15, .inl f9))]) (congrArg (fun zz : Nat => ([(mo, o6 rm (nI tl) (nI zz) (nI np) (nI nq) (nI nd) rt (nI ap) (nI aq) (nI ad) (nI cnt) (nI na) sd rw rx tm tf sm sf), (rm 0, .inl (cI, 48, .inl (fun k_ => nI (tx k_)))), (rm 7, .inl (cI, 3, .inl f7)), (rm 8, .inl (cI, 15, .inl f8)), (rm 9, .inl (cI, 15, .inl f9))] : va_W)) efld) ?_
        refine g_iconst (v := nI 0) hC dX6_readThing_101 rfl ?_
        subst hQ
        refine g_zret (v := nI 0) hC (cur, ap, aq, ad, pu, P, f7, f8, f9) hr (by decide +kernel) ?_ rfl dX6_readThing_102
        have e : rdT tx tl (cur, ap, aq, ad, pu, P) = (false, cur, ap, aq, ad, pu, P) := by
          unfold rdT; dsimp only; rw [if_neg (by omega), if_neg (by omega), if_neg (by omega)]
        rw [e]; exact ⟨(bI_f (fun q => by cases q)).symm, rfl, hR⟩
      refine g_aload_n hC 0 dX6_readThing_79 rfl rfl ?_
      refine g_get (C := RX6) (T := TX6) (N := 38) (ci := 6) (v := .int (nI aq)) hC hcw6 0 rfl rfl 16 (by decide) w4 (fun _ h => h) rfl dX6_readThing_80 ?_
      refine g_if_le_n (a := aq) hC (by omega) 91 dX6_readThing_83 (by decide) (fun h83t => ?_) (fun h83f => ?_)
      · refine g_aload_n hC 0 dX6_readThing_91 rfl rfl ?_
        refine g_dup hC dX6_readThing_92 rfl ?_
        refine g_get (C := RX6) (T := TX6) (N := 38) (ci := 6) (v := .int (nI (cur + 1))) hC hcw6 0 rfl rfl 3 (by decide) w2 (fun _ h => h) rfl dX6_readThing_93 ?_
        refine g_iconst (v := nI 1) hC dX6_readThing_96 rfl ?_
        refine g_isub_n (a := (cur + 1)) (b := 1) hC (by omega) dX6_readThing_97 ?_
        refine g_put (C := RX6) (T := TX6) (N := 38) (ci := 6) (v := .int (nI (cur + 1 - 1))) hC hcw6 tyX6 tyX6_ok nmX6 0 rfl rfl 3 (by decide) w2 (fun _ h => h) rfl (tyX6_ok 3 (by decide)) rfl rfl (Nat.le_of_ble_eq_true rfl) [(mo, o6 rm (nI tl) (nI (cur + 1 - 1)) (nI np) (nI nq) (nI nd) rt (nI ap) (nI aq) (nI ad) (nI cnt) (nI na) sd rw rx tm tf sm sf), (rm 0, .inl (cI, 48, .inl (fun k_ => nI (tx k_)))), (rm 7, .inl (cI, 3, .inl f7)), (rm 8, .inl (cI, 15, .inl f8)), (rm 9, .inl (cI, 15, .inl f9))] rfl dX6_readThing_98 ?_
        have efld : (cur + 1 - 1 : Nat) = cur := by omega
        refine g_ws (ws2 := [(mo, o6 rm (nI tl) (nI cur) (nI np) (nI nq) (nI nd) rt (nI ap) (nI aq) (nI ad) (nI cnt) (nI na) sd rw rx tm tf sm sf), (rm 0, .inl (cI, 48, .inl (fun k_ => nI (tx k_)))), (rm 7, .inl (cI, 3, .inl f7)), (rm 8, .inl (cI, 15, .inl f8)), (rm 9, .inl (cI, 15, .inl f9))]) (congrArg (fun zz : Nat => ([(mo, o6 rm (nI tl) (nI zz) (nI np) (nI nq) (nI nd) rt (nI ap) (nI aq) (nI ad) (nI cnt) (nI na) sd rw rx tm tf sm sf), (rm 0, .inl (cI, 48, .inl (fun k_ => nI (tx k_)))), (rm 7, .inl (cI, 3, .inl f7)), (rm 8, .inl (cI, 15, .inl f8)), (rm 9, .inl (cI, 15, .inl f9))] : va_W)) efld) ?_
        refine g_iconst (v := nI 0) hC dX6_readThing_101 rfl ?_
        subst hQ
        refine g_zret (v := nI 0) hC (cur, ap, aq, ad, pu, P, f7, f8, f9) hr (by decide +kernel) ?_ rfl dX6_readThing_102
        have e : rdT tx tl (cur, ap, aq, ad, pu, P) = (false, cur, ap, aq, ad, pu, P) := by
          unfold rdT; dsimp only; rw [if_neg (by omega), if_neg (by omega), if_neg (by omega)]
        rw [e]; exact ⟨(bI_f (fun q => by cases q)).symm, rfl, hR⟩
      refine g_aload_n hC 0 dX6_readThing_86 rfl rfl ?_
      refine g_callVi (As := []) (rest := []) hC (c_X6_readOneDeed l D cI cZ mo rm tl np nq nd rt cnt na sd rw rx tm tf sm sf tx (cur + 1) f7 f8 f9 ap aq ad pu P (by first | assumption | omega) (by first | assumption | omega) (by first | assumption | omega) (by first | assumption | omega) (by first | assumption | omega) (by first | assumption | omega) (by first | assumption | omega) (by first | assumption | omega) (by first | assumption | omega)) (cwV 0 hC.1.2.2.2.2 gX6_readThing_X6_readOneDeed rfl rfl rfl dV_X6_readOneDeed ⟨Nat.le_of_ble_eq_true rfl, Nat.le_of_ble_eq_true rfl⟩) rfl rfl rfl rfl (Nat.le_of_ble_eq_true rfl) dX6_readThing_87 ⟨Nat.le_of_ble_eq_true rfl, Nat.le_of_ble_eq_true rfl⟩ [0, 1, 2, 3, 4] [] [0, 1, 2, 3, 4] (fun (z : Nat × Nat × Nat × Nat × (Nat → Nat) × (Nat → Nat → Nat) × (Nat → Int32) × (Nat → Int32) × (Nat → Int32)) => match z with | (cur2_37, ap2_38, aq2_39, ad2_40, pu2_41, P2_42, f72_43, f82_44, f92_45) => [(mo, o6 rm (nI tl) (nI cur2_37) (nI np) (nI nq) (nI nd) rt (nI ap2_38) (nI aq2_39) (nI ad2_40) (nI cnt) (nI na) sd rw rx tm tf sm sf), (rm 0, .inl (cI, 48, .inl (fun k_ => nI (tx k_)))), (rm 7, .inl (cI, 3, .inl f72_43)), (rm 8, .inl (cI, 15, .inl f82_44)), (rm 9, .inl (cI, 15, .inl f92_45))]) rfl rfl rfl (fun _ => rfl) (fun r87 z87 hp87 => ?_)
      obtain ⟨cur2_37, ap2_38, aq2_39, ad2_40, pu2_41, P2_42, f72_43, f82_44, f92_45⟩ := z87
      try dsimp only at hp87
      refine g_is (ws2 := [(mo, o6 rm (nI tl) (nI cur2_37) (nI np) (nI nq) (nI nd) rt (nI ap2_38) (nI aq2_39) (nI ad2_40) (nI cnt) (nI na) sd rw rx tm tf sm sf), (rm 0, .inl (cI, 48, .inl (fun k_ => nI (tx k_)))), (rm 7, .inl (cI, 3, .inl f72_43)), (rm 8, .inl (cI, 15, .inl f82_44)), (rm 9, .inl (cI, 15, .inl f92_45))]) (lv2 := [(0, .ref mo), (1, .int (nI (tx cur)))]) (st2 := [.int r87]) rfl rfl rfl ?_
      refine g_top (y := bI ((rdD tx tl (cur + 1, ap, aq, ad, pu, P)).1 = true)) hp87.1 ?_
      subst hQ
      refine g_zret (v := bI ((rdD tx tl (cur + 1, ap, aq, ad, pu, P)).1 = true)) hC (cur2_37, ap2_38, aq2_39, ad2_40, pu2_41, P2_42, f72_43, f82_44, f92_45) hr bI_nar ?_ rfl dX6_readThing_90
      first
        | (exfalso; omega)
        | (have e : rdT tx tl (cur, ap, aq, ad, pu, P) = rdD tx tl (cur + 1, ap, aq, ad, pu, P) := by simp [rdT, *]
           rw [e]; exact ⟨rfl, hp87.2.1, hp87.2.2⟩)
    refine g_aload_n hC 0 dX6_readThing_45 rfl rfl ?_
    refine g_get (C := RX6) (T := TX6) (N := 38) (ci := 6) (v := .int (nI aq)) hC hcw6 0 rfl rfl 16 (by decide) w4 (fun _ h => h) rfl dX6_readThing_46 ?_
    refine g_iconst (v := nI 5) hC dX6_readThing_49 rfl ?_
    refine g_icmp_ge_n (a := aq) (b := 5) hC (by omega) (by omega) 65 dX6_readThing_50 (by decide) (fun h50t => ?_) (fun h50f => ?_)
    · refine g_iload_n hC 1 dX6_readThing_65 rfl rfl ?_
      refine g_bipush (v := nI 68) hC dX6_readThing_66 (by decide +kernel) ?_
      refine g_icmp_ne_n (a := (tx cur)) (b := 68) hC (by omega) (by omega) 91 dX6_readThing_68 (by decide) (fun h68t => ?_) (fun h68f => ?_)
      · refine g_aload_n hC 0 dX6_readThing_91 rfl rfl ?_
        refine g_dup hC dX6_readThing_92 rfl ?_
        refine g_get (C := RX6) (T := TX6) (N := 38) (ci := 6) (v := .int (nI (cur + 1))) hC hcw6 0 rfl rfl 3 (by decide) w2 (fun _ h => h) rfl dX6_readThing_93 ?_
        refine g_iconst (v := nI 1) hC dX6_readThing_96 rfl ?_
        refine g_isub_n (a := (cur + 1)) (b := 1) hC (by omega) dX6_readThing_97 ?_
        refine g_put (C := RX6) (T := TX6) (N := 38) (ci := 6) (v := .int (nI (cur + 1 - 1))) hC hcw6 tyX6 tyX6_ok nmX6 0 rfl rfl 3 (by decide) w2 (fun _ h => h) rfl (tyX6_ok 3 (by decide)) rfl rfl (Nat.le_of_ble_eq_true rfl) [(mo, o6 rm (nI tl) (nI (cur + 1 - 1)) (nI np) (nI nq) (nI nd) rt (nI ap) (nI aq) (nI ad) (nI cnt) (nI na) sd rw rx tm tf sm sf), (rm 0, .inl (cI, 48, .inl (fun k_ => nI (tx k_)))), (rm 7, .inl (cI, 3, .inl f7)), (rm 8, .inl (cI, 15, .inl f8)), (rm 9, .inl (cI, 15, .inl f9))] rfl dX6_readThing_98 ?_
        have efld : (cur + 1 - 1 : Nat) = cur := by omega
        refine g_ws (ws2 := [(mo, o6 rm (nI tl) (nI cur) (nI np) (nI nq) (nI nd) rt (nI ap) (nI aq) (nI ad) (nI cnt) (nI na) sd rw rx tm tf sm sf), (rm 0, .inl (cI, 48, .inl (fun k_ => nI (tx k_)))), (rm 7, .inl (cI, 3, .inl f7)), (rm 8, .inl (cI, 15, .inl f8)), (rm 9, .inl (cI, 15, .inl f9))]) (congrArg (fun zz : Nat => ([(mo, o6 rm (nI tl) (nI zz) (nI np) (nI nq) (nI nd) rt (nI ap) (nI aq) (nI ad) (nI cnt) (nI na) sd rw rx tm tf sm sf), (rm 0, .inl (cI, 48, .inl (fun k_ => nI (tx k_)))), (rm 7, .inl (cI, 3, .inl f7)), (rm 8, .inl (cI, 15, .inl f8)), (rm 9, .inl (cI, 15, .inl f9))] : va_W)) efld) ?_
        refine g_iconst (v := nI 0) hC dX6_readThing_101 rfl ?_
        subst hQ
        refine g_zret (v := nI 0) hC (cur, ap, aq, ad, pu, P, f7, f8, f9) hr (by decide +kernel) ?_ rfl dX6_readThing_102
        have e : rdT tx tl (cur, ap, aq, ad, pu, P) = (false, cur, ap, aq, ad, pu, P) := by
          unfold rdT; dsimp only; rw [if_neg (by omega), if_neg (by omega), if_neg (by omega)]
        rw [e]; exact ⟨(bI_f (fun q => by cases q)).symm, rfl, hR⟩
      refine g_aload_n hC 0 dX6_readThing_71 rfl rfl ?_
      refine g_get (C := RX6) (T := TX6) (N := 38) (ci := 6) (v := .int (nI ad)) hC hcw6 0 rfl rfl 18 (by decide) w5 (fun _ h => h) rfl dX6_readThing_72 ?_
      refine g_iconst (v := nI 5) hC dX6_readThing_75 rfl ?_
      refine g_icmp_ge_n (a := ad) (b := 5) hC (by omega) (by omega) 91 dX6_readThing_76 (by decide) (fun h76t => ?_) (fun h76f => ?_)
      · refine g_aload_n hC 0 dX6_readThing_91 rfl rfl ?_
        refine g_dup hC dX6_readThing_92 rfl ?_
        refine g_get (C := RX6) (T := TX6) (N := 38) (ci := 6) (v := .int (nI (cur + 1))) hC hcw6 0 rfl rfl 3 (by decide) w2 (fun _ h => h) rfl dX6_readThing_93 ?_
        refine g_iconst (v := nI 1) hC dX6_readThing_96 rfl ?_
        refine g_isub_n (a := (cur + 1)) (b := 1) hC (by omega) dX6_readThing_97 ?_
        refine g_put (C := RX6) (T := TX6) (N := 38) (ci := 6) (v := .int (nI (cur + 1 - 1))) hC hcw6 tyX6 tyX6_ok nmX6 0 rfl rfl 3 (by decide) w2 (fun _ h => h) rfl (tyX6_ok 3 (by decide)) rfl rfl (Nat.le_of_ble_eq_true rfl) [(mo, o6 rm (nI tl) (nI (cur + 1 - 1)) (nI np) (nI nq) (nI nd) rt (nI ap) (nI aq) (nI ad) (nI cnt) (nI na) sd rw rx tm tf sm sf), (rm 0, .inl (cI, 48, .inl (fun k_ => nI (tx k_)))), (rm 7, .inl (cI, 3, .inl f7)), (rm 8, .inl (cI, 15, .inl f8)), (rm 9, .inl (cI, 15, .inl f9))] rfl dX6_readThing_98 ?_
        have efld : (cur + 1 - 1 : Nat) = cur := by omega
        refine g_ws (ws2 := [(mo, o6 rm (nI tl) (nI cur) (nI np) (nI nq) (nI nd) rt (nI ap) (nI aq) (nI ad) (nI cnt) (nI na) sd rw rx tm tf sm sf), (rm 0, .inl (cI, 48, .inl (fun k_ => nI (tx k_)))), (rm 7, .inl (cI, 3, .inl f7)), (rm 8, .inl (cI, 15, .inl f8)), (rm 9, .inl (cI, 15, .inl f9))]) (congrArg (fun zz : Nat => ([(mo, o6 rm (nI tl) (nI zz) (nI np) (nI nq) (nI nd) rt (nI ap) (nI aq) (nI ad) (nI cnt) (nI na) sd rw rx tm tf sm sf), (rm 0, .inl (cI, 48, .inl (fun k_ => nI (tx k_)))), (rm 7, .inl (cI, 3, .inl f7)), (rm 8, .inl (cI, 15, .inl f8)), (rm 9, .inl (cI, 15, .inl f9))] : va_W)) efld) ?_
        refine g_iconst (v := nI 0) hC dX6_readThing_101 rfl ?_
        subst hQ
        refine g_zret (v := nI 0) hC (cur, ap, aq, ad, pu, P, f7, f8, f9) hr (by decide +kernel) ?_ rfl dX6_readThing_102
        have e : rdT tx tl (cur, ap, aq, ad, pu, P) = (false, cur, ap, aq, ad, pu, P) := by
          unfold rdT; dsimp only; rw [if_neg (by omega), if_neg (by omega), if_neg (by omega)]
        rw [e]; exact ⟨(bI_f (fun q => by cases q)).symm, rfl, hR⟩
      refine g_aload_n hC 0 dX6_readThing_79 rfl rfl ?_
      refine g_get (C := RX6) (T := TX6) (N := 38) (ci := 6) (v := .int (nI aq)) hC hcw6 0 rfl rfl 16 (by decide) w4 (fun _ h => h) rfl dX6_readThing_80 ?_
      refine g_if_le_n (a := aq) hC (by omega) 91 dX6_readThing_83 (by decide) (fun h83t => ?_) (fun h83f => ?_)
      · refine g_aload_n hC 0 dX6_readThing_91 rfl rfl ?_
        refine g_dup hC dX6_readThing_92 rfl ?_
        refine g_get (C := RX6) (T := TX6) (N := 38) (ci := 6) (v := .int (nI (cur + 1))) hC hcw6 0 rfl rfl 3 (by decide) w2 (fun _ h => h) rfl dX6_readThing_93 ?_
        refine g_iconst (v := nI 1) hC dX6_readThing_96 rfl ?_
        refine g_isub_n (a := (cur + 1)) (b := 1) hC (by omega) dX6_readThing_97 ?_
        refine g_put (C := RX6) (T := TX6) (N := 38) (ci := 6) (v := .int (nI (cur + 1 - 1))) hC hcw6 tyX6 tyX6_ok nmX6 0 rfl rfl 3 (by decide) w2 (fun _ h => h) rfl (tyX6_ok 3 (by decide)) rfl rfl (Nat.le_of_ble_eq_true rfl) [(mo, o6 rm (nI tl) (nI (cur + 1 - 1)) (nI np) (nI nq) (nI nd) rt (nI ap) (nI aq) (nI ad) (nI cnt) (nI na) sd rw rx tm tf sm sf), (rm 0, .inl (cI, 48, .inl (fun k_ => nI (tx k_)))), (rm 7, .inl (cI, 3, .inl f7)), (rm 8, .inl (cI, 15, .inl f8)), (rm 9, .inl (cI, 15, .inl f9))] rfl dX6_readThing_98 ?_
        have efld : (cur + 1 - 1 : Nat) = cur := by omega
        refine g_ws (ws2 := [(mo, o6 rm (nI tl) (nI cur) (nI np) (nI nq) (nI nd) rt (nI ap) (nI aq) (nI ad) (nI cnt) (nI na) sd rw rx tm tf sm sf), (rm 0, .inl (cI, 48, .inl (fun k_ => nI (tx k_)))), (rm 7, .inl (cI, 3, .inl f7)), (rm 8, .inl (cI, 15, .inl f8)), (rm 9, .inl (cI, 15, .inl f9))]) (congrArg (fun zz : Nat => ([(mo, o6 rm (nI tl) (nI zz) (nI np) (nI nq) (nI nd) rt (nI ap) (nI aq) (nI ad) (nI cnt) (nI na) sd rw rx tm tf sm sf), (rm 0, .inl (cI, 48, .inl (fun k_ => nI (tx k_)))), (rm 7, .inl (cI, 3, .inl f7)), (rm 8, .inl (cI, 15, .inl f8)), (rm 9, .inl (cI, 15, .inl f9))] : va_W)) efld) ?_
        refine g_iconst (v := nI 0) hC dX6_readThing_101 rfl ?_
        subst hQ
        refine g_zret (v := nI 0) hC (cur, ap, aq, ad, pu, P, f7, f8, f9) hr (by decide +kernel) ?_ rfl dX6_readThing_102
        have e : rdT tx tl (cur, ap, aq, ad, pu, P) = (false, cur, ap, aq, ad, pu, P) := by
          unfold rdT; dsimp only; rw [if_neg (by omega), if_neg (by omega), if_neg (by omega)]
        rw [e]; exact ⟨(bI_f (fun q => by cases q)).symm, rfl, hR⟩
      refine g_aload_n hC 0 dX6_readThing_86 rfl rfl ?_
      refine g_callVi (As := []) (rest := []) hC (c_X6_readOneDeed l D cI cZ mo rm tl np nq nd rt cnt na sd rw rx tm tf sm sf tx (cur + 1) f7 f8 f9 ap aq ad pu P (by first | assumption | omega) (by first | assumption | omega) (by first | assumption | omega) (by first | assumption | omega) (by first | assumption | omega) (by first | assumption | omega) (by first | assumption | omega) (by first | assumption | omega) (by first | assumption | omega)) (cwV 0 hC.1.2.2.2.2 gX6_readThing_X6_readOneDeed rfl rfl rfl dV_X6_readOneDeed ⟨Nat.le_of_ble_eq_true rfl, Nat.le_of_ble_eq_true rfl⟩) rfl rfl rfl rfl (Nat.le_of_ble_eq_true rfl) dX6_readThing_87 ⟨Nat.le_of_ble_eq_true rfl, Nat.le_of_ble_eq_true rfl⟩ [0, 1, 2, 3, 4] [] [0, 1, 2, 3, 4] (fun (z : Nat × Nat × Nat × Nat × (Nat → Nat) × (Nat → Nat → Nat) × (Nat → Int32) × (Nat → Int32) × (Nat → Int32)) => match z with | (cur2_46, ap2_47, aq2_48, ad2_49, pu2_50, P2_51, f72_52, f82_53, f92_54) => [(mo, o6 rm (nI tl) (nI cur2_46) (nI np) (nI nq) (nI nd) rt (nI ap2_47) (nI aq2_48) (nI ad2_49) (nI cnt) (nI na) sd rw rx tm tf sm sf), (rm 0, .inl (cI, 48, .inl (fun k_ => nI (tx k_)))), (rm 7, .inl (cI, 3, .inl f72_52)), (rm 8, .inl (cI, 15, .inl f82_53)), (rm 9, .inl (cI, 15, .inl f92_54))]) rfl rfl rfl (fun _ => rfl) (fun r87 z87 hp87 => ?_)
      obtain ⟨cur2_46, ap2_47, aq2_48, ad2_49, pu2_50, P2_51, f72_52, f82_53, f92_54⟩ := z87
      try dsimp only at hp87
      refine g_is (ws2 := [(mo, o6 rm (nI tl) (nI cur2_46) (nI np) (nI nq) (nI nd) rt (nI ap2_47) (nI aq2_48) (nI ad2_49) (nI cnt) (nI na) sd rw rx tm tf sm sf), (rm 0, .inl (cI, 48, .inl (fun k_ => nI (tx k_)))), (rm 7, .inl (cI, 3, .inl f72_52)), (rm 8, .inl (cI, 15, .inl f82_53)), (rm 9, .inl (cI, 15, .inl f92_54))]) (lv2 := [(0, .ref mo), (1, .int (nI (tx cur)))]) (st2 := [.int r87]) rfl rfl rfl ?_
      refine g_top (y := bI ((rdD tx tl (cur + 1, ap, aq, ad, pu, P)).1 = true)) hp87.1 ?_
      subst hQ
      refine g_zret (v := bI ((rdD tx tl (cur + 1, ap, aq, ad, pu, P)).1 = true)) hC (cur2_46, ap2_47, aq2_48, ad2_49, pu2_50, P2_51, f72_52, f82_53, f92_54) hr bI_nar ?_ rfl dX6_readThing_90
      first
        | (exfalso; omega)
        | (have e : rdT tx tl (cur, ap, aq, ad, pu, P) = rdD tx tl (cur + 1, ap, aq, ad, pu, P) := by simp [rdT, *]
           rw [e]; exact ⟨rfl, hp87.2.1, hp87.2.2⟩)
    refine g_aload_n hC 0 dX6_readThing_53 rfl rfl ?_
    refine g_get (C := RX6) (T := TX6) (N := 38) (ci := 6) (v := .int (nI ap)) hC hcw6 0 rfl rfl 14 (by decide) w3 (fun _ h => h) rfl dX6_readThing_54 ?_
    refine g_if_le_n (a := ap) hC (by omega) 65 dX6_readThing_57 (by decide) (fun h57t => ?_) (fun h57f => ?_)
    · refine g_iload_n hC 1 dX6_readThing_65 rfl rfl ?_
      refine g_bipush (v := nI 68) hC dX6_readThing_66 (by decide +kernel) ?_
      refine g_icmp_ne_n (a := (tx cur)) (b := 68) hC (by omega) (by omega) 91 dX6_readThing_68 (by decide) (fun h68t => ?_) (fun h68f => ?_)
      · refine g_aload_n hC 0 dX6_readThing_91 rfl rfl ?_
        refine g_dup hC dX6_readThing_92 rfl ?_
        refine g_get (C := RX6) (T := TX6) (N := 38) (ci := 6) (v := .int (nI (cur + 1))) hC hcw6 0 rfl rfl 3 (by decide) w2 (fun _ h => h) rfl dX6_readThing_93 ?_
        refine g_iconst (v := nI 1) hC dX6_readThing_96 rfl ?_
        refine g_isub_n (a := (cur + 1)) (b := 1) hC (by omega) dX6_readThing_97 ?_
        refine g_put (C := RX6) (T := TX6) (N := 38) (ci := 6) (v := .int (nI (cur + 1 - 1))) hC hcw6 tyX6 tyX6_ok nmX6 0 rfl rfl 3 (by decide) w2 (fun _ h => h) rfl (tyX6_ok 3 (by decide)) rfl rfl (Nat.le_of_ble_eq_true rfl) [(mo, o6 rm (nI tl) (nI (cur + 1 - 1)) (nI np) (nI nq) (nI nd) rt (nI ap) (nI aq) (nI ad) (nI cnt) (nI na) sd rw rx tm tf sm sf), (rm 0, .inl (cI, 48, .inl (fun k_ => nI (tx k_)))), (rm 7, .inl (cI, 3, .inl f7)), (rm 8, .inl (cI, 15, .inl f8)), (rm 9, .inl (cI, 15, .inl f9))] rfl dX6_readThing_98 ?_
        have efld : (cur + 1 - 1 : Nat) = cur := by omega
        refine g_ws (ws2 := [(mo, o6 rm (nI tl) (nI cur) (nI np) (nI nq) (nI nd) rt (nI ap) (nI aq) (nI ad) (nI cnt) (nI na) sd rw rx tm tf sm sf), (rm 0, .inl (cI, 48, .inl (fun k_ => nI (tx k_)))), (rm 7, .inl (cI, 3, .inl f7)), (rm 8, .inl (cI, 15, .inl f8)), (rm 9, .inl (cI, 15, .inl f9))]) (congrArg (fun zz : Nat => ([(mo, o6 rm (nI tl) (nI zz) (nI np) (nI nq) (nI nd) rt (nI ap) (nI aq) (nI ad) (nI cnt) (nI na) sd rw rx tm tf sm sf), (rm 0, .inl (cI, 48, .inl (fun k_ => nI (tx k_)))), (rm 7, .inl (cI, 3, .inl f7)), (rm 8, .inl (cI, 15, .inl f8)), (rm 9, .inl (cI, 15, .inl f9))] : va_W)) efld) ?_
        refine g_iconst (v := nI 0) hC dX6_readThing_101 rfl ?_
        subst hQ
        refine g_zret (v := nI 0) hC (cur, ap, aq, ad, pu, P, f7, f8, f9) hr (by decide +kernel) ?_ rfl dX6_readThing_102
        have e : rdT tx tl (cur, ap, aq, ad, pu, P) = (false, cur, ap, aq, ad, pu, P) := by
          unfold rdT; dsimp only; rw [if_neg (by omega), if_neg (by omega), if_neg (by omega)]
        rw [e]; exact ⟨(bI_f (fun q => by cases q)).symm, rfl, hR⟩
      refine g_aload_n hC 0 dX6_readThing_71 rfl rfl ?_
      refine g_get (C := RX6) (T := TX6) (N := 38) (ci := 6) (v := .int (nI ad)) hC hcw6 0 rfl rfl 18 (by decide) w5 (fun _ h => h) rfl dX6_readThing_72 ?_
      refine g_iconst (v := nI 5) hC dX6_readThing_75 rfl ?_
      refine g_icmp_ge_n (a := ad) (b := 5) hC (by omega) (by omega) 91 dX6_readThing_76 (by decide) (fun h76t => ?_) (fun h76f => ?_)
      · refine g_aload_n hC 0 dX6_readThing_91 rfl rfl ?_
        refine g_dup hC dX6_readThing_92 rfl ?_
        refine g_get (C := RX6) (T := TX6) (N := 38) (ci := 6) (v := .int (nI (cur + 1))) hC hcw6 0 rfl rfl 3 (by decide) w2 (fun _ h => h) rfl dX6_readThing_93 ?_
        refine g_iconst (v := nI 1) hC dX6_readThing_96 rfl ?_
        refine g_isub_n (a := (cur + 1)) (b := 1) hC (by omega) dX6_readThing_97 ?_
        refine g_put (C := RX6) (T := TX6) (N := 38) (ci := 6) (v := .int (nI (cur + 1 - 1))) hC hcw6 tyX6 tyX6_ok nmX6 0 rfl rfl 3 (by decide) w2 (fun _ h => h) rfl (tyX6_ok 3 (by decide)) rfl rfl (Nat.le_of_ble_eq_true rfl) [(mo, o6 rm (nI tl) (nI (cur + 1 - 1)) (nI np) (nI nq) (nI nd) rt (nI ap) (nI aq) (nI ad) (nI cnt) (nI na) sd rw rx tm tf sm sf), (rm 0, .inl (cI, 48, .inl (fun k_ => nI (tx k_)))), (rm 7, .inl (cI, 3, .inl f7)), (rm 8, .inl (cI, 15, .inl f8)), (rm 9, .inl (cI, 15, .inl f9))] rfl dX6_readThing_98 ?_
        have efld : (cur + 1 - 1 : Nat) = cur := by omega
        refine g_ws (ws2 := [(mo, o6 rm (nI tl) (nI cur) (nI np) (nI nq) (nI nd) rt (nI ap) (nI aq) (nI ad) (nI cnt) (nI na) sd rw rx tm tf sm sf), (rm 0, .inl (cI, 48, .inl (fun k_ => nI (tx k_)))), (rm 7, .inl (cI, 3, .inl f7)), (rm 8, .inl (cI, 15, .inl f8)), (rm 9, .inl (cI, 15, .inl f9))]) (congrArg (fun zz : Nat => ([(mo, o6 rm (nI tl) (nI zz) (nI np) (nI nq) (nI nd) rt (nI ap) (nI aq) (nI ad) (nI cnt) (nI na) sd rw rx tm tf sm sf), (rm 0, .inl (cI, 48, .inl (fun k_ => nI (tx k_)))), (rm 7, .inl (cI, 3, .inl f7)), (rm 8, .inl (cI, 15, .inl f8)), (rm 9, .inl (cI, 15, .inl f9))] : va_W)) efld) ?_
        refine g_iconst (v := nI 0) hC dX6_readThing_101 rfl ?_
        subst hQ
        refine g_zret (v := nI 0) hC (cur, ap, aq, ad, pu, P, f7, f8, f9) hr (by decide +kernel) ?_ rfl dX6_readThing_102
        have e : rdT tx tl (cur, ap, aq, ad, pu, P) = (false, cur, ap, aq, ad, pu, P) := by
          unfold rdT; dsimp only; rw [if_neg (by omega), if_neg (by omega), if_neg (by omega)]
        rw [e]; exact ⟨(bI_f (fun q => by cases q)).symm, rfl, hR⟩
      refine g_aload_n hC 0 dX6_readThing_79 rfl rfl ?_
      refine g_get (C := RX6) (T := TX6) (N := 38) (ci := 6) (v := .int (nI aq)) hC hcw6 0 rfl rfl 16 (by decide) w4 (fun _ h => h) rfl dX6_readThing_80 ?_
      refine g_if_le_n (a := aq) hC (by omega) 91 dX6_readThing_83 (by decide) (fun h83t => ?_) (fun h83f => ?_)
      · refine g_aload_n hC 0 dX6_readThing_91 rfl rfl ?_
        refine g_dup hC dX6_readThing_92 rfl ?_
        refine g_get (C := RX6) (T := TX6) (N := 38) (ci := 6) (v := .int (nI (cur + 1))) hC hcw6 0 rfl rfl 3 (by decide) w2 (fun _ h => h) rfl dX6_readThing_93 ?_
        refine g_iconst (v := nI 1) hC dX6_readThing_96 rfl ?_
        refine g_isub_n (a := (cur + 1)) (b := 1) hC (by omega) dX6_readThing_97 ?_
        refine g_put (C := RX6) (T := TX6) (N := 38) (ci := 6) (v := .int (nI (cur + 1 - 1))) hC hcw6 tyX6 tyX6_ok nmX6 0 rfl rfl 3 (by decide) w2 (fun _ h => h) rfl (tyX6_ok 3 (by decide)) rfl rfl (Nat.le_of_ble_eq_true rfl) [(mo, o6 rm (nI tl) (nI (cur + 1 - 1)) (nI np) (nI nq) (nI nd) rt (nI ap) (nI aq) (nI ad) (nI cnt) (nI na) sd rw rx tm tf sm sf), (rm 0, .inl (cI, 48, .inl (fun k_ => nI (tx k_)))), (rm 7, .inl (cI, 3, .inl f7)), (rm 8, .inl (cI, 15, .inl f8)), (rm 9, .inl (cI, 15, .inl f9))] rfl dX6_readThing_98 ?_
        have efld : (cur + 1 - 1 : Nat) = cur := by omega
        refine g_ws (ws2 := [(mo, o6 rm (nI tl) (nI cur) (nI np) (nI nq) (nI nd) rt (nI ap) (nI aq) (nI ad) (nI cnt) (nI na) sd rw rx tm tf sm sf), (rm 0, .inl (cI, 48, .inl (fun k_ => nI (tx k_)))), (rm 7, .inl (cI, 3, .inl f7)), (rm 8, .inl (cI, 15, .inl f8)), (rm 9, .inl (cI, 15, .inl f9))]) (congrArg (fun zz : Nat => ([(mo, o6 rm (nI tl) (nI zz) (nI np) (nI nq) (nI nd) rt (nI ap) (nI aq) (nI ad) (nI cnt) (nI na) sd rw rx tm tf sm sf), (rm 0, .inl (cI, 48, .inl (fun k_ => nI (tx k_)))), (rm 7, .inl (cI, 3, .inl f7)), (rm 8, .inl (cI, 15, .inl f8)), (rm 9, .inl (cI, 15, .inl f9))] : va_W)) efld) ?_
        refine g_iconst (v := nI 0) hC dX6_readThing_101 rfl ?_
        subst hQ
        refine g_zret (v := nI 0) hC (cur, ap, aq, ad, pu, P, f7, f8, f9) hr (by decide +kernel) ?_ rfl dX6_readThing_102
        have e : rdT tx tl (cur, ap, aq, ad, pu, P) = (false, cur, ap, aq, ad, pu, P) := by
          unfold rdT; dsimp only; rw [if_neg (by omega), if_neg (by omega), if_neg (by omega)]
        rw [e]; exact ⟨(bI_f (fun q => by cases q)).symm, rfl, hR⟩
      refine g_aload_n hC 0 dX6_readThing_86 rfl rfl ?_
      refine g_callVi (As := []) (rest := []) hC (c_X6_readOneDeed l D cI cZ mo rm tl np nq nd rt cnt na sd rw rx tm tf sm sf tx (cur + 1) f7 f8 f9 ap aq ad pu P (by first | assumption | omega) (by first | assumption | omega) (by first | assumption | omega) (by first | assumption | omega) (by first | assumption | omega) (by first | assumption | omega) (by first | assumption | omega) (by first | assumption | omega) (by first | assumption | omega)) (cwV 0 hC.1.2.2.2.2 gX6_readThing_X6_readOneDeed rfl rfl rfl dV_X6_readOneDeed ⟨Nat.le_of_ble_eq_true rfl, Nat.le_of_ble_eq_true rfl⟩) rfl rfl rfl rfl (Nat.le_of_ble_eq_true rfl) dX6_readThing_87 ⟨Nat.le_of_ble_eq_true rfl, Nat.le_of_ble_eq_true rfl⟩ [0, 1, 2, 3, 4] [] [0, 1, 2, 3, 4] (fun (z : Nat × Nat × Nat × Nat × (Nat → Nat) × (Nat → Nat → Nat) × (Nat → Int32) × (Nat → Int32) × (Nat → Int32)) => match z with | (cur2_55, ap2_56, aq2_57, ad2_58, pu2_59, P2_60, f72_61, f82_62, f92_63) => [(mo, o6 rm (nI tl) (nI cur2_55) (nI np) (nI nq) (nI nd) rt (nI ap2_56) (nI aq2_57) (nI ad2_58) (nI cnt) (nI na) sd rw rx tm tf sm sf), (rm 0, .inl (cI, 48, .inl (fun k_ => nI (tx k_)))), (rm 7, .inl (cI, 3, .inl f72_61)), (rm 8, .inl (cI, 15, .inl f82_62)), (rm 9, .inl (cI, 15, .inl f92_63))]) rfl rfl rfl (fun _ => rfl) (fun r87 z87 hp87 => ?_)
      obtain ⟨cur2_55, ap2_56, aq2_57, ad2_58, pu2_59, P2_60, f72_61, f82_62, f92_63⟩ := z87
      try dsimp only at hp87
      refine g_is (ws2 := [(mo, o6 rm (nI tl) (nI cur2_55) (nI np) (nI nq) (nI nd) rt (nI ap2_56) (nI aq2_57) (nI ad2_58) (nI cnt) (nI na) sd rw rx tm tf sm sf), (rm 0, .inl (cI, 48, .inl (fun k_ => nI (tx k_)))), (rm 7, .inl (cI, 3, .inl f72_61)), (rm 8, .inl (cI, 15, .inl f82_62)), (rm 9, .inl (cI, 15, .inl f92_63))]) (lv2 := [(0, .ref mo), (1, .int (nI (tx cur)))]) (st2 := [.int r87]) rfl rfl rfl ?_
      refine g_top (y := bI ((rdD tx tl (cur + 1, ap, aq, ad, pu, P)).1 = true)) hp87.1 ?_
      subst hQ
      refine g_zret (v := bI ((rdD tx tl (cur + 1, ap, aq, ad, pu, P)).1 = true)) hC (cur2_55, ap2_56, aq2_57, ad2_58, pu2_59, P2_60, f72_61, f82_62, f92_63) hr bI_nar ?_ rfl dX6_readThing_90
      first
        | (exfalso; omega)
        | (have e : rdT tx tl (cur, ap, aq, ad, pu, P) = rdD tx tl (cur + 1, ap, aq, ad, pu, P) := by simp [rdT, *]
           rw [e]; exact ⟨rfl, hp87.2.1, hp87.2.2⟩)
    refine g_aload_n hC 0 dX6_readThing_60 rfl rfl ?_
    refine g_callVi (As := []) (rest := []) hC (c_X6_readOneQuality l D cI cZ mo rm tl np nq nd rt cnt na sd rw rx tm tf sm sf tx (cur + 1) f7 f8 f9 ap aq ad pu P (by first | assumption | omega) (by first | assumption | omega) (by first | assumption | omega) (by first | assumption | omega) (by first | assumption | omega) (by first | assumption | omega) (by first | assumption | omega) (by first | assumption | omega) (by first | assumption | omega)) (cwV 0 hC.1.2.2.2.2 gX6_readThing_X6_readOneQuality rfl rfl rfl dV_X6_readOneQuality ⟨Nat.le_of_ble_eq_true rfl, Nat.le_of_ble_eq_true rfl⟩) rfl rfl rfl rfl (Nat.le_of_ble_eq_true rfl) dX6_readThing_61 ⟨Nat.le_of_ble_eq_true rfl, Nat.le_of_ble_eq_true rfl⟩ [0, 1, 2, 3, 4] [] [0, 1, 2, 3, 4] (fun (z : Nat × Nat × Nat × Nat × (Nat → Nat) × (Nat → Nat → Nat) × (Nat → Int32) × (Nat → Int32) × (Nat → Int32)) => match z with | (cur2_64, ap2_65, aq2_66, ad2_67, pu2_68, P2_69, f72_70, f82_71, f92_72) => [(mo, o6 rm (nI tl) (nI cur2_64) (nI np) (nI nq) (nI nd) rt (nI ap2_65) (nI aq2_66) (nI ad2_67) (nI cnt) (nI na) sd rw rx tm tf sm sf), (rm 0, .inl (cI, 48, .inl (fun k_ => nI (tx k_)))), (rm 7, .inl (cI, 3, .inl f72_70)), (rm 8, .inl (cI, 15, .inl f82_71)), (rm 9, .inl (cI, 15, .inl f92_72))]) rfl rfl rfl (fun _ => rfl) (fun r61 z61 hp61 => ?_)
    obtain ⟨cur2_64, ap2_65, aq2_66, ad2_67, pu2_68, P2_69, f72_70, f82_71, f92_72⟩ := z61
    try dsimp only at hp61
    refine g_is (ws2 := [(mo, o6 rm (nI tl) (nI cur2_64) (nI np) (nI nq) (nI nd) rt (nI ap2_65) (nI aq2_66) (nI ad2_67) (nI cnt) (nI na) sd rw rx tm tf sm sf), (rm 0, .inl (cI, 48, .inl (fun k_ => nI (tx k_)))), (rm 7, .inl (cI, 3, .inl f72_70)), (rm 8, .inl (cI, 15, .inl f82_71)), (rm 9, .inl (cI, 15, .inl f92_72))]) (lv2 := [(0, .ref mo), (1, .int (nI (tx cur)))]) (st2 := [.int r61]) rfl rfl rfl ?_
    refine g_top (y := bI ((rdQ tx tl (cur + 1, ap, aq, ad, pu, P)).1 = true)) hp61.1 ?_
    subst hQ
    refine g_zret (v := bI ((rdQ tx tl (cur + 1, ap, aq, ad, pu, P)).1 = true)) hC (cur2_64, ap2_65, aq2_66, ad2_67, pu2_68, P2_69, f72_70, f82_71, f92_72) hr bI_nar ?_ rfl dX6_readThing_64
    first
      | (exfalso; omega)
      | (have e : rdT tx tl (cur, ap, aq, ad, pu, P) = rdQ tx tl (cur + 1, ap, aq, ad, pu, P) := by simp [rdT, *]
         rw [e]; exact ⟨rfl, hp61.2.1, hp61.2.2⟩)
  refine g_aload_n hC 0 dX6_readThing_34 rfl rfl ?_
  refine g_callVi (As := []) (rest := []) hC (c_X6_readOnePerson l D cI cZ mo rm tl np nq nd rt cnt na sd rw rx tm tf sm sf tx (cur + 1) f7 f8 f9 ap aq ad pu P (by first | assumption | omega) (by first | assumption | omega) (by first | assumption | omega) (by first | assumption | omega) (by first | assumption | omega) (by first | assumption | omega) (by first | assumption | omega) (by first | assumption | omega)) (cwV 0 hC.1.2.2.2.2 gX6_readThing_X6_readOnePerson rfl rfl rfl dV_X6_readOnePerson ⟨Nat.le_of_ble_eq_true rfl, Nat.le_of_ble_eq_true rfl⟩) rfl rfl rfl rfl (Nat.le_of_ble_eq_true rfl) dX6_readThing_35 ⟨Nat.le_of_ble_eq_true rfl, Nat.le_of_ble_eq_true rfl⟩ [0, 1, 2, 3, 4] [] [0, 1, 2, 3, 4] (fun (z : Nat × Nat × Nat × Nat × (Nat → Nat) × (Nat → Nat → Nat) × (Nat → Int32) × (Nat → Int32) × (Nat → Int32)) => match z with | (cur2_73, ap2_74, aq2_75, ad2_76, pu2_77, P2_78, f72_79, f82_80, f92_81) => [(mo, o6 rm (nI tl) (nI cur2_73) (nI np) (nI nq) (nI nd) rt (nI ap2_74) (nI aq2_75) (nI ad2_76) (nI cnt) (nI na) sd rw rx tm tf sm sf), (rm 0, .inl (cI, 48, .inl (fun k_ => nI (tx k_)))), (rm 7, .inl (cI, 3, .inl f72_79)), (rm 8, .inl (cI, 15, .inl f82_80)), (rm 9, .inl (cI, 15, .inl f92_81))]) rfl rfl rfl (fun _ => rfl) (fun r35 z35 hp35 => ?_)
  obtain ⟨cur2_73, ap2_74, aq2_75, ad2_76, pu2_77, P2_78, f72_79, f82_80, f92_81⟩ := z35
  try dsimp only at hp35
  refine g_is (ws2 := [(mo, o6 rm (nI tl) (nI cur2_73) (nI np) (nI nq) (nI nd) rt (nI ap2_74) (nI aq2_75) (nI ad2_76) (nI cnt) (nI na) sd rw rx tm tf sm sf), (rm 0, .inl (cI, 48, .inl (fun k_ => nI (tx k_)))), (rm 7, .inl (cI, 3, .inl f72_79)), (rm 8, .inl (cI, 15, .inl f82_80)), (rm 9, .inl (cI, 15, .inl f92_81))]) (lv2 := [(0, .ref mo), (1, .int (nI (tx cur)))]) (st2 := [.int r35]) rfl rfl rfl ?_
  refine g_top (y := bI ((rdP tx tl (cur + 1, ap, aq, ad, pu, P)).1 = true)) hp35.1 ?_
  subst hQ
  refine g_zret (v := bI ((rdP tx tl (cur + 1, ap, aq, ad, pu, P)).1 = true)) hC (cur2_73, ap2_74, aq2_75, ad2_76, pu2_77, P2_78, f72_79, f82_80, f92_81) hr bI_nar ?_ rfl dX6_readThing_38
  first
    | (exfalso; omega)
    | (have e : rdT tx tl (cur, ap, aq, ad, pu, P) = rdP tx tl (cur + 1, ap, aq, ad, pu, P) := by simp [rdT, *]
       rw [e]; exact ⟨rfl, hp35.2.1, hp35.2.2⟩)

abbrev rm_X6_readShop : Room := { frames := 4, cells := 0, slots := 0, locals := 91 }
set_option maxRecDepth 100000 in
set_option maxHeartbeats 4000000 in
theorem c_X6_readShop (l : Launch) (D : va_G) (cI cZ : ClassId) (mo : Nat) (rm : Nat → Nat) (tl : Nat) (pl : Int32) (np : Nat) (nq : Nat) (nd : Nat) (rt : Int32) (rp : Int32) (rq : Int32) (rd : Int32) (cnt : Nat) (na : Nat) (sd : Int64) (rw : Int32) (rx : Int32) (tm : Int32) (tf : Int32) (sm : Int32) (sf : Int32) (tx : Nat → Nat) (f7 : Nat → Int32) (f8 : Nat → Int32) (f9 : Nat → Int32) (pu : Nat → Nat) (P : Nat → Nat → Nat) (hl : tl ≤ 48) (htx : ∀ k, tx k < 256) : CtI l yX6_readShop wsX6_readShop rm_X6_readShop D cI cZ [.ref mo] [(mo, o6 rm (nI tl) pl (nI np) (nI nq) (nI nd) rt rp rq rd (nI cnt) (nI na) sd rw rx tm tf sm sf), (rm 0, .inl (cI, 48, .inl (fun k_ => nI (tx k_)))), (rm 7, .inl (cI, 3, .inl f7)), (rm 8, .inl (cI, 15, .inl f8)), (rm 9, .inl (cI, 15, .inl f9))] (fun (r : Int32) (z : Int32 × Nat × Nat × Nat × Nat × (Nat → Nat) × (Nat → Nat → Nat) × (Nat → Int32) × (Nat → Int32) × (Nat → Int32)) => match z with | (rt2, cur2, ap2, aq2, ad2, pu2, P2, f72, f82, f92) => r = (rdA tx tl pu P).1 ∧ ((rdA tx tl pu P).1 = (-9) → rt2 = nI (rdA tx tl pu P).2.1 ∧ (cur2, ap2, aq2, ad2, pu2, P2) = (rdA tx tl pu P).2.2 ∧ RelP f72 f82 f92 ap2 aq2 ad2 pu2 P2)) (fun (z : Int32 × Nat × Nat × Nat × Nat × (Nat → Nat) × (Nat → Nat → Nat) × (Nat → Int32) × (Nat → Int32) × (Nat → Int32)) => match z with | (rt2, cur2, ap2, aq2, ad2, pu2, P2, f72, f82, f92) => [(mo, o6 rm (nI tl) (nI cur2) (nI np) (nI nq) (nI nd) rt2 (nI ap2) (nI aq2) (nI ad2) (nI cnt) (nI na) sd rw rx tm tf sm sf), (rm 0, .inl (cI, 48, .inl (fun k_ => nI (tx k_)))), (rm 7, .inl (cI, 3, .inl f72)), (rm 8, .inl (cI, 15, .inl f82)), (rm 9, .inl (cI, 15, .inl f92))]) 0 0 := by
  refine g_startI (ret := (some .int)) (own := RX6) (lv0 := [(0, .ref mo)]) (by decide) rfl rfl (Nat.le_of_ble_eq_true rfl) rfl ?_
  intro p e s m args below meth cd A Q hin hr hQ hC
  have hcw6 : ∀ w ∈ wsX60, w ∈ wsX6_readShop := fun _ h => List.mem_cons_of_mem _ (List.mem_append_right _ h)
  have w1 := hC.1.2.2.2.2 (.fieldLink "PluckBrokerModel" 90 "PluckBrokerModel" "place" "I") (List.mem_of_getElem? (i := 1) rfl)
  have w2 := hC.1.2.2.2.2 (.fieldLink "PluckBrokerModel" 97 "PluckBrokerModel" "readPersons" "I") (List.mem_of_getElem? (i := 2) rfl)
  have w3 := hC.1.2.2.2.2 (.fieldLink "PluckBrokerModel" 100 "PluckBrokerModel" "readQualities" "I") (List.mem_of_getElem? (i := 3) rfl)
  have w4 := hC.1.2.2.2.2 (.fieldLink "PluckBrokerModel" 103 "PluckBrokerModel" "readDeeds" "I") (List.mem_of_getElem? (i := 4) rfl)
  have w5 := hC.1.2.2.2.2 (.fieldLink "PluckBrokerModel" 87 "PluckBrokerModel" "textSize" "I") (List.mem_of_getElem? (i := 5) rfl)
  have w6 := hC.1.2.2.2.2 (.fieldLink "PluckBrokerModel" 7 "PluckBrokerModel" "text" "[I") (List.mem_of_getElem? (i := 6) rfl)
  have w7 := hC.1.2.2.2.2 (.fieldLink "PluckBrokerModel" 116 "PluckBrokerModel" "readTill" "I") (List.mem_of_getElem? (i := 7) rfl)
  have hx0 := htx 0
  have hx1 := htx 1
  refine g_aload_n hC 0 dX6_readShop_0 rfl rfl ?_
  refine g_iconst (v := nI 0) hC dX6_readShop_1 rfl ?_
  refine g_put (C := RX6) (T := TX6) (N := 38) (ci := 6) (v := .int (nI 0)) hC hcw6 tyX6 tyX6_ok nmX6 0 rfl rfl 3 (by decide) w1 (fun _ h => h) rfl (tyX6_ok 3 (by decide)) rfl rfl (Nat.le_of_ble_eq_true rfl) [(mo, o6 rm (nI tl) (nI 0) (nI np) (nI nq) (nI nd) rt rp rq rd (nI cnt) (nI na) sd rw rx tm tf sm sf), (rm 0, .inl (cI, 48, .inl (fun k_ => nI (tx k_)))), (rm 7, .inl (cI, 3, .inl f7)), (rm 8, .inl (cI, 15, .inl f8)), (rm 9, .inl (cI, 15, .inl f9))] rfl dX6_readShop_2 ?_
  refine g_aload_n hC 0 dX6_readShop_5 rfl rfl ?_
  refine g_iconst (v := nI 0) hC dX6_readShop_6 rfl ?_
  refine g_put (C := RX6) (T := TX6) (N := 38) (ci := 6) (v := .int (nI 0)) hC hcw6 tyX6 tyX6_ok nmX6 0 rfl rfl 14 (by decide) w2 (fun _ h => h) rfl (tyX6_ok 14 (by decide)) rfl rfl (Nat.le_of_ble_eq_true rfl) [(mo, o6 rm (nI tl) (nI 0) (nI np) (nI nq) (nI nd) rt (nI 0) rq rd (nI cnt) (nI na) sd rw rx tm tf sm sf), (rm 0, .inl (cI, 48, .inl (fun k_ => nI (tx k_)))), (rm 7, .inl (cI, 3, .inl f7)), (rm 8, .inl (cI, 15, .inl f8)), (rm 9, .inl (cI, 15, .inl f9))] rfl dX6_readShop_7 ?_
  refine g_aload_n hC 0 dX6_readShop_10 rfl rfl ?_
  refine g_iconst (v := nI 0) hC dX6_readShop_11 rfl ?_
  refine g_put (C := RX6) (T := TX6) (N := 38) (ci := 6) (v := .int (nI 0)) hC hcw6 tyX6 tyX6_ok nmX6 0 rfl rfl 16 (by decide) w3 (fun _ h => h) rfl (tyX6_ok 16 (by decide)) rfl rfl (Nat.le_of_ble_eq_true rfl) [(mo, o6 rm (nI tl) (nI 0) (nI np) (nI nq) (nI nd) rt (nI 0) (nI 0) rd (nI cnt) (nI na) sd rw rx tm tf sm sf), (rm 0, .inl (cI, 48, .inl (fun k_ => nI (tx k_)))), (rm 7, .inl (cI, 3, .inl f7)), (rm 8, .inl (cI, 15, .inl f8)), (rm 9, .inl (cI, 15, .inl f9))] rfl dX6_readShop_12 ?_
  refine g_aload_n hC 0 dX6_readShop_15 rfl rfl ?_
  refine g_iconst (v := nI 0) hC dX6_readShop_16 rfl ?_
  refine g_put (C := RX6) (T := TX6) (N := 38) (ci := 6) (v := .int (nI 0)) hC hcw6 tyX6 tyX6_ok nmX6 0 rfl rfl 18 (by decide) w4 (fun _ h => h) rfl (tyX6_ok 18 (by decide)) rfl rfl (Nat.le_of_ble_eq_true rfl) [(mo, o6 rm (nI tl) (nI 0) (nI np) (nI nq) (nI nd) rt (nI 0) (nI 0) (nI 0) (nI cnt) (nI na) sd rw rx tm tf sm sf), (rm 0, .inl (cI, 48, .inl (fun k_ => nI (tx k_)))), (rm 7, .inl (cI, 3, .inl f7)), (rm 8, .inl (cI, 15, .inl f8)), (rm 9, .inl (cI, 15, .inl f9))] rfl dX6_readShop_17 ?_
  refine g_aload_n hC 0 dX6_readShop_20 rfl rfl ?_
  refine g_get (C := RX6) (T := TX6) (N := 38) (ci := 6) (v := .int (nI tl)) hC hcw6 0 rfl rfl 2 (by decide) w5 (fun _ h => h) rfl dX6_readShop_21 ?_
  refine g_if_eq_n (a := tl) hC (by omega) 38 dX6_readShop_24 (by decide) (fun h24t => ?_) (fun h24f => ?_)
  · refine g_iconst (v := nI 0) hC dX6_readShop_38 rfl ?_
    subst hQ
    refine g_iret (v := nI 0) hC (rt, 0, 0, 0, 0, pu, P, f7, f8, f9) hr ?_ rfl dX6_readShop_39
    have e : rdA tx tl pu P = (nI 0, 0, 0, 0, 0, 0, pu, P) := if_neg (fun q => by have := q.1; omega)
    rw [e]; exact ⟨rfl, fun q => absurd q (nI_ne9 (by decide))⟩
  refine g_aload_n hC 0 dX6_readShop_27 rfl rfl ?_
  refine g_get (C := RX6) (T := TX6) (N := 38) (ci := 6) (v := .ref (rm 0)) hC hcw6 0 rfl rfl 1 (by decide) w6 (fun _ h => h) rfl dX6_readShop_28 ?_
  refine g_iconst (v := nI 0) hC dX6_readShop_31 rfl ?_
  refine g_iald hC 1 rfl 0 rfl (by omega) (by decide) dX6_readShop_32 ?_
  refine g_bipush (v := nI 66) hC dX6_readShop_33 (by decide +kernel) ?_
  refine g_icmp_eq_n (a := (tx 0)) (b := 66) hC (by omega) (by omega) 40 dX6_readShop_35 (by decide) (fun h35t => ?_) (fun h35f => ?_)
  · refine g_aload_n hC 0 dX6_readShop_40 rfl rfl ?_
    refine g_iconst (v := nI 1) hC dX6_readShop_41 rfl ?_
    refine g_put (C := RX6) (T := TX6) (N := 38) (ci := 6) (v := .int (nI 1)) hC hcw6 tyX6 tyX6_ok nmX6 0 rfl rfl 3 (by decide) w1 (fun _ h => h) rfl (tyX6_ok 3 (by decide)) rfl rfl (Nat.le_of_ble_eq_true rfl) [(mo, o6 rm (nI tl) (nI 1) (nI np) (nI nq) (nI nd) rt (nI 0) (nI 0) (nI 0) (nI cnt) (nI na) sd rw rx tm tf sm sf), (rm 0, .inl (cI, 48, .inl (fun k_ => nI (tx k_)))), (rm 7, .inl (cI, 3, .inl f7)), (rm 8, .inl (cI, 15, .inl f8)), (rm 9, .inl (cI, 15, .inl f9))] rfl dX6_readShop_42 ?_
    refine g_aload_n hC 0 dX6_readShop_45 rfl rfl ?_
    refine g_aload_n hC 0 dX6_readShop_46 rfl rfl ?_
    refine g_iconst (v := nI 0) hC dX6_readShop_47 rfl ?_
    refine g_bipush (v := nI 9) hC dX6_readShop_48 (by decide +kernel) ?_
    refine g_callVi (As := [.int (nI 0), .int (nI 9)]) (rest := [.ref mo]) hC (c_X6_figure l D cI cZ mo rm tl np nq nd rt (nI 0) (nI 0) (nI 0) cnt na sd rw rx tm tf sm sf tx 1 0 9 (by first | assumption | omega) (by first | assumption | omega) (by first | assumption | omega) (by first | assumption | omega) (by first | assumption | omega)) (cwV 2 hC.1.2.2.2.2 gX6_readShop_X6_figure rfl rfl rfl dV_X6_figure ⟨Nat.le_of_ble_eq_true rfl, Nat.le_of_ble_eq_true rfl⟩) rfl rfl rfl rfl (Nat.le_of_ble_eq_true rfl) dX6_readShop_50 ⟨Nat.le_of_ble_eq_true rfl, Nat.le_of_ble_eq_true rfl⟩ [0, 1] [2, 3, 4] [3, 4, 0, 1, 2] (fun (_ : Unit) => [(mo, o6 rm (nI tl) (nI (figC tx tl 1 0 9)) (nI np) (nI nq) (nI nd) rt (nI 0) (nI 0) (nI 0) (nI cnt) (nI na) sd rw rx tm tf sm sf), (rm 0, .inl (cI, 48, .inl (fun k_ => nI (tx k_)))), (rm 7, .inl (cI, 3, .inl f7)), (rm 8, .inl (cI, 15, .inl f8)), (rm 9, .inl (cI, 15, .inl f9))]) rfl rfl rfl (fun _ => rfl) (fun r50 z50 hp50 => ?_)
    try dsimp only at hp50
    subst hp50
    refine g_is (ws2 := [(mo, o6 rm (nI tl) (nI (figC tx tl 1 0 9)) (nI np) (nI nq) (nI nd) rt (nI 0) (nI 0) (nI 0) (nI cnt) (nI na) sd rw rx tm tf sm sf), (rm 0, .inl (cI, 48, .inl (fun k_ => nI (tx k_)))), (rm 7, .inl (cI, 3, .inl f7)), (rm 8, .inl (cI, 15, .inl f8)), (rm 9, .inl (cI, 15, .inl f9))]) (lv2 := [(0, .ref mo)]) (st2 := [.int (figW tx tl 1 0 9), .ref mo]) rfl rfl rfl ?_
    refine g_put (C := RX6) (T := TX6) (N := 38) (ci := 6) (v := .int (figW tx tl 1 0 9)) hC hcw6 tyX6 tyX6_ok nmX6 0 rfl rfl 13 (by decide) w7 (fun _ h => h) rfl (tyX6_ok 13 (by decide)) rfl rfl (Nat.le_of_ble_eq_true rfl) [(mo, o6 rm (nI tl) (nI (figC tx tl 1 0 9)) (nI np) (nI nq) (nI nd) (figW tx tl 1 0 9) (nI 0) (nI 0) (nI 0) (nI cnt) (nI na) sd rw rx tm tf sm sf), (rm 0, .inl (cI, 48, .inl (fun k_ => nI (tx k_)))), (rm 7, .inl (cI, 3, .inl f7)), (rm 8, .inl (cI, 15, .inl f8)), (rm 9, .inl (cI, 15, .inl f9))] rfl dX6_readShop_53 ?_
    refine g_aload_n hC 0 dX6_readShop_56 rfl rfl ?_
    refine g_get (C := RX6) (T := TX6) (N := 38) (ci := 6) (v := .int (figW tx tl 1 0 9)) hC hcw6 0 rfl rfl 13 (by decide) w7 (fun _ h => h) rfl dX6_readShop_57 ?_
    refine g_bipush (v := (-9)) hC dX6_readShop_60 (by decide +kernel) ?_
    refine g_icmp_ne hC 70 dX6_readShop_62 (by decide) (fun h62t => ?_) (fun h62f => ?_)
    · have hf1 := figW_t h62t
      have efld : (figC tx tl 1 0 9 : Nat) = 2 := by rw [figC_e hf1]
      refine g_ws (ws2 := [(mo, o6 rm (nI tl) (nI 2) (nI np) (nI nq) (nI nd) (figW tx tl 1 0 9) (nI 0) (nI 0) (nI 0) (nI cnt) (nI na) sd rw rx tm tf sm sf), (rm 0, .inl (cI, 48, .inl (fun k_ => nI (tx k_)))), (rm 7, .inl (cI, 3, .inl f7)), (rm 8, .inl (cI, 15, .inl f8)), (rm 9, .inl (cI, 15, .inl f9))]) (congrArg (fun zz : Nat => ([(mo, o6 rm (nI tl) (nI zz) (nI np) (nI nq) (nI nd) (figW tx tl 1 0 9) (nI 0) (nI 0) (nI 0) (nI cnt) (nI na) sd rw rx tm tf sm sf), (rm 0, .inl (cI, 48, .inl (fun k_ => nI (tx k_)))), (rm 7, .inl (cI, 3, .inl f7)), (rm 8, .inl (cI, 15, .inl f8)), (rm 9, .inl (cI, 15, .inl f9))] : va_W)) efld) ?_
      have efld : (figW tx tl 1 0 9) = nI (tx 1 - 48) := by rw [figW_e hf1]
      refine g_ws (ws2 := [(mo, o6 rm (nI tl) (nI 2) (nI np) (nI nq) (nI nd) (nI (tx 1 - 48)) (nI 0) (nI 0) (nI 0) (nI cnt) (nI na) sd rw rx tm tf sm sf), (rm 0, .inl (cI, 48, .inl (fun k_ => nI (tx k_)))), (rm 7, .inl (cI, 3, .inl f7)), (rm 8, .inl (cI, 15, .inl f8)), (rm 9, .inl (cI, 15, .inl f9))]) (congrArg (fun zz : Int32 => ([(mo, o6 rm (nI tl) (nI 2) (nI np) (nI nq) (nI nd) zz (nI 0) (nI 0) (nI 0) (nI cnt) (nI na) sd rw rx tm tf sm sf), (rm 0, .inl (cI, 48, .inl (fun k_ => nI (tx k_)))), (rm 7, .inl (cI, 3, .inl f7)), (rm 8, .inl (cI, 15, .inl f8)), (rm 9, .inl (cI, 15, .inl f9))] : va_W)) efld) ?_
      have L70 : ∀ (n : Nat) (cur1 : Nat) (ap1 : Nat) (aq1 : Nat) (ad1 : Nat) (pu1 : Nat → Nat) (P1 : Nat → Nat → Nat) (f71 : Nat → Int32) (f81 : Nat → Int32) (f91 : Nat → Int32) (fu : Nat), (cur1 ≤ tl ∧ ap1 ≤ 3 ∧ aq1 ≤ 5 ∧ ad1 ≤ 5) → (tl - cur1 < fu) → (rdL tx tl 48 (2, 0, 0, 0, pu, P) = rdL tx tl fu (cur1, ap1, aq1, ad1, pu1, P1)) → (RelP f71 f81 f91 ap1 aq1 ad1 pu1 P1) → fu < n → G p l e rm_X6_readShop s m args below meth cd D A 0 0 Q 1 [(mo, o6 rm (nI tl) (nI cur1) (nI np) (nI nq) (nI nd) (nI (tx 1 - 48)) (nI ap1) (nI aq1) (nI ad1) (nI cnt) (nI na) sd rw rx tm tf sm sf), (rm 0, .inl (cI, 48, .inl (fun k_ => nI (tx k_)))), (rm 7, .inl (cI, 3, .inl f71)), (rm 8, .inl (cI, 15, .inl f81)), (rm 9, .inl (cI, 15, .inl f91))] 70 [(0, .ref mo)] [] := by
        intro n
        induction n with
        | zero => intro cur1 ap1 aq1 ad1 pu1 P1 f71 f81 f91 fu hb1 hfu he hR1 hn; exact absurd hn (Nat.not_lt_zero _)
        | succ n ih70 =>
          intro cur1 ap1 aq1 ad1 pu1 P1 f71 f81 f91 fu hb1 hfu he hR1 hn
          refine g_aload_n hC 0 dX6_readShop_70 rfl rfl ?_
          refine g_get (C := RX6) (T := TX6) (N := 38) (ci := 6) (v := .int (nI cur1)) hC hcw6 0 rfl rfl 3 (by decide) w1 (fun _ h => h) rfl dX6_readShop_71 ?_
          refine g_aload_n hC 0 dX6_readShop_74 rfl rfl ?_
          refine g_get (C := RX6) (T := TX6) (N := 38) (ci := 6) (v := .int (nI tl)) hC hcw6 0 rfl rfl 2 (by decide) w5 (fun _ h => h) rfl dX6_readShop_75 ?_
          refine g_icmp_ge_n (a := cur1) (b := tl) hC (by omega) (by omega) 93 dX6_readShop_78 (by decide) (fun h78t => ?_) (fun h78f => ?_)
          · refine g_bipush (v := (-9)) hC dX6_readShop_93 (by decide +kernel) ?_
            subst hQ
            refine g_iret (v := -9) hC (nI (tx 1 - 48), cur1, ap1, aq1, ad1, pu1, P1, f71, f81, f91) hr ?_ rfl dX6_readShop_95
            have e : rdA tx tl pu P = ((rdL tx tl 48 (2, 0, 0, 0, pu, P)).1, tx 1 - 48, (rdL tx tl 48 (2, 0, 0, 0, pu, P)).2) := by rw [rdA, if_pos ⟨Nat.pos_of_ne_zero h24f, h35t⟩, if_pos hf1]
            rw [e, he]
            obtain ⟨k, hk⟩ : ∃ k, fu = k + 1 := ⟨fu - 1, by omega⟩
            have e2 : rdL tx tl (k + 1) (cur1, ap1, aq1, ad1, pu1, P1) = ((-9), (cur1, ap1, aq1, ad1, pu1, P1)) := if_neg (by show ¬ cur1 < tl; omega)
            rw [hk, e2]; exact ⟨rfl, fun _ => ⟨rfl, rfl, hR1⟩⟩
          refine g_aload_n hC 0 dX6_readShop_81 rfl rfl ?_
          refine g_callVi (As := []) (rest := []) hC (c_X6_readThing l D cI cZ mo rm tl np nq nd (nI (tx 1 - 48)) cnt na sd rw rx tm tf sm sf tx cur1 f71 f81 f91 ap1 aq1 ad1 pu1 P1 (by first | assumption | omega) (by first | assumption | omega) h78f hb1.2.1 hb1.2.2.1 hb1.2.2.2 hR1) (cwV 0 hC.1.2.2.2.2 gX6_readShop_X6_readThing rfl rfl rfl dV_X6_readThing ⟨Nat.le_of_ble_eq_true rfl, Nat.le_of_ble_eq_true rfl⟩) rfl rfl rfl rfl (Nat.le_of_ble_eq_true rfl) dX6_readShop_82 ⟨Nat.le_of_ble_eq_true rfl, Nat.le_of_ble_eq_true rfl⟩ [0, 1, 2, 3, 4] [] [0, 1, 2, 3, 4] (fun (z : Nat × Nat × Nat × Nat × (Nat → Nat) × (Nat → Nat → Nat) × (Nat → Int32) × (Nat → Int32) × (Nat → Int32)) => match z with | (cur2_1, ap2_2, aq2_3, ad2_4, pu2_5, P2_6, f72_7, f82_8, f92_9) => [(mo, o6 rm (nI tl) (nI cur2_1) (nI np) (nI nq) (nI nd) (nI (tx 1 - 48)) (nI ap2_2) (nI aq2_3) (nI ad2_4) (nI cnt) (nI na) sd rw rx tm tf sm sf), (rm 0, .inl (cI, 48, .inl (fun k_ => nI (tx k_)))), (rm 7, .inl (cI, 3, .inl f72_7)), (rm 8, .inl (cI, 15, .inl f82_8)), (rm 9, .inl (cI, 15, .inl f92_9))]) rfl rfl rfl (fun _ => rfl) (fun r82 z82 hp82 => ?_)
          obtain ⟨cur2_1, ap2_2, aq2_3, ad2_4, pu2_5, P2_6, f72_7, f82_8, f92_9⟩ := z82
          try dsimp only at hp82
          refine g_is (ws2 := [(mo, o6 rm (nI tl) (nI cur2_1) (nI np) (nI nq) (nI nd) (nI (tx 1 - 48)) (nI ap2_2) (nI aq2_3) (nI ad2_4) (nI cnt) (nI na) sd rw rx tm tf sm sf), (rm 0, .inl (cI, 48, .inl (fun k_ => nI (tx k_)))), (rm 7, .inl (cI, 3, .inl f72_7)), (rm 8, .inl (cI, 15, .inl f82_8)), (rm 9, .inl (cI, 15, .inl f92_9))]) (lv2 := [(0, .ref mo)]) (st2 := [.int r82]) rfl rfl rfl ?_
          refine g_top (y := bI ((rdT tx tl (cur1, ap1, aq1, ad1, pu1, P1)).1 = true)) hp82.1 ?_
          refine g_if_ne_b hC 70 dX6_readShop_85 (by decide) (fun h85t => ?_) (fun h85f => ?_)
          · refine ih70 cur2_1 ap2_2 aq2_3 ad2_4 pu2_5 P2_6 f72_7 f82_8 f92_9 (fu - 1) ?_ ?_ ?_ ?_ ?_
            · obtain ⟨q1, q2, q3, q4, q5, q6⟩ := rdT_bd h78f hb1.2.1 hb1.2.2.1 hb1.2.2.2 hp82.2.1
              exact ⟨q2, q3, q4, q5⟩
            · obtain ⟨q1, q2, q3, q4, q5, q6⟩ := rdT_bd h78f hb1.2.1 hb1.2.2.1 hb1.2.2.2 hp82.2.1
              have := q6 h85t; omega
            · rw [he, hp82.2.1]
              obtain ⟨k, hk⟩ : ∃ k, fu = k + 1 := ⟨fu - 1, by omega⟩
              rw [hk, Nat.add_sub_cancel]
              show (if _ then _ else _) = _
              rw [if_pos h78f, if_pos h85t]
            · exact hp82.2.2
            · omega
          refine g_aload_n hC 0 dX6_readShop_88 rfl rfl ?_
          refine g_get (C := RX6) (T := TX6) (N := 38) (ci := 6) (v := .int (nI cur2_1)) hC hcw6 0 rfl rfl 3 (by decide) w1 (fun _ h => h) rfl dX6_readShop_89 ?_
          subst hQ
          refine g_iret (v := nI cur2_1) hC (nI (tx 1 - 48), cur2_1, ap2_2, aq2_3, ad2_4, pu1, P1, f72_7, f82_8, f92_9) hr ?_ rfl dX6_readShop_92
          have e : rdA tx tl pu P = ((rdL tx tl 48 (2, 0, 0, 0, pu, P)).1, tx 1 - 48, (rdL tx tl 48 (2, 0, 0, 0, pu, P)).2) := by rw [rdA, if_pos ⟨Nat.pos_of_ne_zero h24f, h35t⟩, if_pos hf1]
          rw [e, he]
          obtain ⟨k, hk⟩ : ∃ k, fu = k + 1 := ⟨fu - 1, by omega⟩
          have e2 : rdL tx tl (k + 1) (cur1, ap1, aq1, ad1, pu1, P1) = (nI (rdT tx tl (cur1, ap1, aq1, ad1, pu1, P1)).2.1, (rdT tx tl (cur1, ap1, aq1, ad1, pu1, P1)).2) := by
            show (if _ then _ else _) = _
            rw [if_pos h78f, if_neg h85f]
          obtain ⟨q1, q2, q3, q4, q5, q6⟩ := rdT_bd h78f hb1.2.1 hb1.2.2.1 hb1.2.2.2 hp82.2.1
          rw [hk, e2, ← hp82.2.1]; exact ⟨rfl, fun q => absurd q (nI_ne9 (by omega))⟩
      refine L70 _ 2 0 0 0 pu P f7 f8 f9 48 ?_ ?_ ?_ ?_ (Nat.lt_succ_self _)
      · refine ⟨?_, ?_, ?_, ?_⟩ <;> omega
      · omega
      · rfl
      · exact ⟨fun k h => absurd h (Nat.not_lt_zero _), fun k h => absurd h (Nat.not_lt_zero _), fun k h => absurd h (Nat.not_lt_zero _)⟩
    have hf1 := figW_f htx h62f
    have efld : (figC tx tl 1 0 9 : Nat) = 1 := by rw [figC_n hf1]
    refine g_ws (ws2 := [(mo, o6 rm (nI tl) (nI 1) (nI np) (nI nq) (nI nd) (figW tx tl 1 0 9) (nI 0) (nI 0) (nI 0) (nI cnt) (nI na) sd rw rx tm tf sm sf), (rm 0, .inl (cI, 48, .inl (fun k_ => nI (tx k_)))), (rm 7, .inl (cI, 3, .inl f7)), (rm 8, .inl (cI, 15, .inl f8)), (rm 9, .inl (cI, 15, .inl f9))]) (congrArg (fun zz : Nat => ([(mo, o6 rm (nI tl) (nI zz) (nI np) (nI nq) (nI nd) (figW tx tl 1 0 9) (nI 0) (nI 0) (nI 0) (nI cnt) (nI na) sd rw rx tm tf sm sf), (rm 0, .inl (cI, 48, .inl (fun k_ => nI (tx k_)))), (rm 7, .inl (cI, 3, .inl f7)), (rm 8, .inl (cI, 15, .inl f8)), (rm 9, .inl (cI, 15, .inl f9))] : va_W)) efld) ?_
    refine g_aload_n hC 0 dX6_readShop_65 rfl rfl ?_
    refine g_get (C := RX6) (T := TX6) (N := 38) (ci := 6) (v := .int (nI 1)) hC hcw6 0 rfl rfl 3 (by decide) w1 (fun _ h => h) rfl dX6_readShop_66 ?_
    subst hQ
    refine g_iret (v := nI 1) hC (figW tx tl 1 0 9, 1, 0, 0, 0, pu, P, f7, f8, f9) hr ?_ rfl dX6_readShop_69
    have e : rdA tx tl pu P = (nI 1, 0, 1, 0, 0, 0, pu, P) := by rw [rdA, if_pos ⟨Nat.pos_of_ne_zero h24f, h35t⟩, if_neg hf1]
    rw [e]; exact ⟨rfl, fun q => absurd q (nI_ne9 (by decide))⟩
  refine g_iconst (v := nI 0) hC dX6_readShop_38 rfl ?_
  subst hQ
  refine g_iret (v := nI 0) hC (rt, 0, 0, 0, 0, pu, P, f7, f8, f9) hr ?_ rfl dX6_readShop_39
  have e : rdA tx tl pu P = (nI 0, 0, 0, 0, 0, 0, pu, P) := if_neg (fun q => h35f q.2)
  rw [e]; exact ⟨rfl, fun q => absurd q (nI_ne9 (by decide))⟩

abbrev rm_X6_fault : Room := { frames := 5, cells := 0, slots := 0, locals := 111 }
set_option maxRecDepth 100000 in
set_option maxHeartbeats 4000000 in
theorem c_X6_fault (l : Launch) (D : va_G) (cI cZ : ClassId) (mo : Nat) (rm : Nat → Nat) (tl : Nat) (pl : Int32) (np : Nat) (nq : Nat) (nd : Nat) (rt : Int32) (rp : Int32) (rq : Int32) (rd : Int32) (cnt : Nat) (na : Nat) (sd : Int64) (rw : Int32) (rx : Int32) (tm : Int32) (tf : Int32) (sm : Int32) (sf : Int32) (tx : Nat → Nat) (f7 : Nat → Int32) (f8 : Nat → Int32) (f9 : Nat → Int32) (pu : Nat → Nat) (P : Nat → Nat → Nat) (hl : tl ≤ 48) (htx : ∀ k, tx k < 256) : CtI l yX6_fault wsX6_fault rm_X6_fault D cI cZ [.ref mo] [(mo, o6 rm (nI tl) pl (nI np) (nI nq) (nI nd) rt rp rq rd (nI cnt) (nI na) sd rw rx tm tf sm sf), (rm 0, .inl (cI, 48, .inl (fun k_ => nI (tx k_)))), (rm 7, .inl (cI, 3, .inl f7)), (rm 8, .inl (cI, 15, .inl f8)), (rm 9, .inl (cI, 15, .inl f9))] (fun (r : Int32) (z : Int32 × Nat × Nat × Nat × Nat × (Nat → Int32) × (Nat → Int32) × (Nat → Int32)) => match z with | (rt2, cur2, ap2, aq2, ad2, f72, f82, f92) => r = (rdA tx tl pu P).1) (fun (z : Int32 × Nat × Nat × Nat × Nat × (Nat → Int32) × (Nat → Int32) × (Nat → Int32)) => match z with | (rt2, cur2, ap2, aq2, ad2, f72, f82, f92) => [(mo, o6 rm (nI tl) (nI cur2) (nI np) (nI nq) (nI nd) rt2 (nI ap2) (nI aq2) (nI ad2) (nI cnt) (nI na) sd rw rx tm tf sm sf), (rm 0, .inl (cI, 48, .inl (fun k_ => nI (tx k_)))), (rm 7, .inl (cI, 3, .inl f72)), (rm 8, .inl (cI, 15, .inl f82)), (rm 9, .inl (cI, 15, .inl f92))]) 0 0 := by
  refine g_startI (ret := (some .int)) (own := RX6) (lv0 := [(0, .ref mo)]) (by decide) rfl rfl (Nat.le_of_ble_eq_true rfl) rfl ?_
  intro p e s m args below meth cd A Q hin hr hQ hC
  have hcw6 : ∀ w ∈ wsX60, w ∈ wsX6_fault := fun _ h => List.mem_cons_of_mem _ (List.mem_append_right _ h)
  have w1 := hC.1.2.2.2.2 (.fieldLink "PluckBrokerModel" 68 "PluckBrokerModel" "thrown" "I") (List.mem_of_getElem? (i := 1) rfl)
  refine g_aload_n hC 0 dX6_fault_0 rfl rfl ?_
  refine g_iconst (v := nI 0) hC dX6_fault_1 rfl ?_
  refine g_put (C := RX6) (T := TX6) (N := 38) (ci := 6) (v := .int (nI 0)) hC hcw6 tyX6 tyX6_ok nmX6 0 rfl rfl 0 (by decide) w1 (fun _ h => h) rfl (tyX6_ok 0 (by decide)) rfl rfl (Nat.le_of_ble_eq_true rfl) [(mo, o6 rm (nI tl) pl (nI np) (nI nq) (nI nd) rt rp rq rd (nI cnt) (nI na) sd rw rx tm tf sm sf), (rm 0, .inl (cI, 48, .inl (fun k_ => nI (tx k_)))), (rm 7, .inl (cI, 3, .inl f7)), (rm 8, .inl (cI, 15, .inl f8)), (rm 9, .inl (cI, 15, .inl f9))] rfl dX6_fault_2 ?_
  refine g_aload_n hC 0 dX6_fault_5 rfl rfl ?_
  refine g_callVi (As := []) (rest := []) hC (c_X6_readShop l D cI cZ mo rm tl pl np nq nd rt rp rq rd cnt na sd rw rx tm tf sm sf tx f7 f8 f9 pu P (by first | assumption | omega) (by first | assumption | omega)) (cwV 0 hC.1.2.2.2.2 gX6_fault_X6_readShop rfl rfl rfl dV_X6_readShop ⟨Nat.le_of_ble_eq_true rfl, Nat.le_of_ble_eq_true rfl⟩) rfl rfl rfl rfl (Nat.le_of_ble_eq_true rfl) dX6_fault_6 ⟨Nat.le_of_ble_eq_true rfl, Nat.le_of_ble_eq_true rfl⟩ [0, 1, 2, 3, 4] [] [0, 1, 2, 3, 4] (fun (z : Int32 × Nat × Nat × Nat × Nat × (Nat → Nat) × (Nat → Nat → Nat) × (Nat → Int32) × (Nat → Int32) × (Nat → Int32)) => match z with | (rt2_1, cur2_2, ap2_3, aq2_4, ad2_5, pu2_6, P2_7, f72_8, f82_9, f92_10) => [(mo, o6 rm (nI tl) (nI cur2_2) (nI np) (nI nq) (nI nd) rt2_1 (nI ap2_3) (nI aq2_4) (nI ad2_5) (nI cnt) (nI na) sd rw rx tm tf sm sf), (rm 0, .inl (cI, 48, .inl (fun k_ => nI (tx k_)))), (rm 7, .inl (cI, 3, .inl f72_8)), (rm 8, .inl (cI, 15, .inl f82_9)), (rm 9, .inl (cI, 15, .inl f92_10))]) rfl rfl rfl (fun _ => rfl) (fun r6 z6 hp6 => ?_)
  obtain ⟨rt2_1, cur2_2, ap2_3, aq2_4, ad2_5, pu2_6, P2_7, f72_8, f82_9, f92_10⟩ := z6
  try dsimp only at hp6
  refine g_is (ws2 := [(mo, o6 rm (nI tl) (nI cur2_2) (nI np) (nI nq) (nI nd) rt2_1 (nI ap2_3) (nI aq2_4) (nI ad2_5) (nI cnt) (nI na) sd rw rx tm tf sm sf), (rm 0, .inl (cI, 48, .inl (fun k_ => nI (tx k_)))), (rm 7, .inl (cI, 3, .inl f72_8)), (rm 8, .inl (cI, 15, .inl f82_9)), (rm 9, .inl (cI, 15, .inl f92_10))]) (lv2 := [(0, .ref mo)]) (st2 := [.int r6]) rfl rfl rfl ?_
  subst hQ
  refine g_iret (v := r6) hC (rt2_1, cur2_2, ap2_3, aq2_4, ad2_5, f72_8, f82_9, f92_10) hr ?_ rfl dX6_fault_9
  exact hp6.1

abbrev rm_X6_write : Room := { frames := 1, cells := 0, slots := 0, locals := 25 }
set_option maxRecDepth 100000 in
set_option maxHeartbeats 4000000 in
theorem c_X6_write (l : Launch) (D : va_G) (cI cZ : ClassId) (mo : Nat) (rm : Nat → Nat) (tl : Nat) (pl : Int32) (np : Nat) (nq : Nat) (nd : Nat) (rt : Int32) (rp : Int32) (rq : Int32) (rd : Int32) (cnt : Nat) (na : Nat) (sd : Int64) (rw : Int32) (rx : Int32) (tm : Int32) (tf : Int32) (sm : Int32) (sf : Int32) (tx : Nat → Nat) (a : Int32) (hl : tl ≤ 48) : CtI l yX6_write wsX6_write rm_X6_write D cI cZ [.ref mo, .int a] [(mo, o6 rm (nI tl) pl (nI np) (nI nq) (nI nd) rt rp rq rd (nI cnt) (nI na) sd rw rx tm tf sm sf), (rm 0, .inl (cI, 48, .inl (fun k_ => nI (tx k_))))] (fun r (_ : Unit) => r = wrR tl a) (fun (_ : Unit) => [(mo, o6 rm (nI (wrL tl a)) pl (nI np) (nI nq) (nI nd) rt rp rq rd (nI cnt) (nI na) sd rw rx tm tf sm sf), (rm 0, .inl (cI, 48, .inl (fun k_ => nI (wrX tx tl a k_))))]) 0 0 := by
  refine g_startI (ret := (some .int)) (own := RX6) (lv0 := [(0, .ref mo), (1, .int a)]) (by decide) rfl rfl (Nat.le_of_ble_eq_true rfl) rfl ?_
  intro p e s m args below meth cd A Q hin hr hQ hC
  have hcw6 : ∀ w ∈ wsX60, w ∈ wsX6_write := fun _ h => List.mem_cons_of_mem _ (List.mem_append_right _ h)
  have w1 := hC.1.2.2.2.2 (.fieldLink "PluckBrokerModel" 68 "PluckBrokerModel" "thrown" "I") (List.mem_of_getElem? (i := 1) rfl)
  have w2 := hC.1.2.2.2.2 (.constantLong "PluckBrokerModel" 85 255) (List.mem_of_getElem? (i := 2) rfl)
  have w3 := hC.1.2.2.2.2 (.fieldLink "PluckBrokerModel" 87 "PluckBrokerModel" "textSize" "I") (List.mem_of_getElem? (i := 3) rfl)
  have w4 := hC.1.2.2.2.2 (.fieldLink "PluckBrokerModel" 7 "PluckBrokerModel" "text" "[I") (List.mem_of_getElem? (i := 4) rfl)
  refine g_aload_n hC 0 dX6_write_0 rfl rfl ?_
  refine g_iconst (v := nI 0) hC dX6_write_1 rfl ?_
  refine g_put (C := RX6) (T := TX6) (N := 38) (ci := 6) (v := .int (nI 0)) hC hcw6 tyX6 tyX6_ok nmX6 0 rfl rfl 0 (by decide) w1 (fun _ h => h) rfl (tyX6_ok 0 (by decide)) rfl rfl (Nat.le_of_ble_eq_true rfl) [(mo, o6 rm (nI tl) pl (nI np) (nI nq) (nI nd) rt rp rq rd (nI cnt) (nI na) sd rw rx tm tf sm sf), (rm 0, .inl (cI, 48, .inl (fun k_ => nI (tx k_))))] rfl dX6_write_2 ?_
  refine g_iload_n hC 1 dX6_write_5 rfl rfl ?_
  refine g_i2l hC dX6_write_6 rfl ?_
  refine g_lconst (v := (nI 0).toInt64) hC dX6_write_7 (by decide +kernel) ?_
  refine g_ldc2 (v := 255) hC w2 dX6_write_8 ?_
  refine g_topl (y := (nI 255).toInt64) (by decide +kernel) ?_
  refine g_callSip (As := [.long a.toInt64, .long ((nI 0).toInt64), .long ((nI 255).toInt64)]) (rest := []) hC (bI ((nI 0) ≤ a ∧ a ≤ (nI 255))) (c_X6_in l D cI cZ a (nI 0) (nI 255)) (va_cwS 3 hC.1.2.2.2.2 gX6_write_X6_in rfl rfl rfl dS_X6_in ⟨Nat.le_of_ble_eq_true rfl, Nat.le_of_ble_eq_true rfl⟩) rfl rfl (Nat.le_of_ble_eq_true rfl) dX6_write_11 ⟨Nat.le_of_ble_eq_true rfl, Nat.le_of_ble_eq_true rfl⟩ [] rfl rfl ?_
  refine g_if_ne_b hC 20 dX6_write_14 (by decide) (fun h14t => ?_) (fun h14f => ?_)
  · have okl : okL a := h14t
    obtain ⟨v, hv, rfl⟩ := ok_n (M := 255) (by decide) okl
    refine g_aload_n hC 0 dX6_write_20 rfl rfl ?_
    refine g_get (C := RX6) (T := TX6) (N := 38) (ci := 6) (v := .int (nI tl)) hC hcw6 0 rfl rfl 2 (by decide) w3 (fun _ h => h) rfl dX6_write_21 ?_
    refine g_bipush (v := nI 48) hC dX6_write_24 (by decide +kernel) ?_
    refine g_icmp_ne_n (a := tl) (b := 48) hC (by omega) (by omega) 32 dX6_write_26 (by decide) (fun h26t => ?_) (fun h26f => ?_)
    · refine g_aload_n hC 0 dX6_write_32 rfl rfl ?_
      refine g_get (C := RX6) (T := TX6) (N := 38) (ci := 6) (v := .ref (rm 0)) hC hcw6 0 rfl rfl 1 (by decide) w4 (fun _ h => h) rfl dX6_write_33 ?_
      refine g_aload_n hC 0 dX6_write_36 rfl rfl ?_
      refine g_get (C := RX6) (T := TX6) (N := 38) (ci := 6) (v := .int (nI tl)) hC hcw6 0 rfl rfl 2 (by decide) w3 (fun _ h => h) rfl dX6_write_37 ?_
      refine g_iload_n hC 1 dX6_write_40 rfl rfl ?_
      refine g_iast hC 1 rfl tl rfl (by omega) (by decide) [(mo, o6 rm (nI tl) pl (nI np) (nI nq) (nI nd) rt rp rq rd (nI cnt) (nI na) sd rw rx tm tf sm sf), (rm 0, .inl (cI, 48, .inl (upd (fun k_ => nI (tx k_)) tl (nI v))))] rfl dX6_write_41 ?_
      refine g_aload_n hC 0 dX6_write_42 rfl rfl ?_
      refine g_dup hC dX6_write_43 rfl ?_
      refine g_get (C := RX6) (T := TX6) (N := 38) (ci := 6) (v := .int (nI tl)) hC hcw6 0 rfl rfl 2 (by decide) w3 (fun _ h => h) rfl dX6_write_44 ?_
      refine g_iconst (v := nI 1) hC dX6_write_47 rfl ?_
      refine g_iadd_n (a := tl) (b := 1) hC dX6_write_48 ?_
      refine g_put (C := RX6) (T := TX6) (N := 38) (ci := 6) (v := .int (nI (tl + 1))) hC hcw6 tyX6 tyX6_ok nmX6 0 rfl rfl 2 (by decide) w3 (fun _ h => h) rfl (tyX6_ok 2 (by decide)) rfl rfl (Nat.le_of_ble_eq_true rfl) [(mo, o6 rm (nI (tl + 1)) pl (nI np) (nI nq) (nI nd) rt rp rq rd (nI cnt) (nI na) sd rw rx tm tf sm sf), (rm 0, .inl (cI, 48, .inl (upd (fun k_ => nI (tx k_)) tl (nI v))))] rfl dX6_write_49 ?_
      refine g_aload_n hC 0 dX6_write_52 rfl rfl ?_
      refine g_get (C := RX6) (T := TX6) (N := 38) (ci := 6) (v := .int (nI (tl + 1))) hC hcw6 0 rfl rfl 2 (by decide) w3 (fun _ h => h) rfl dX6_write_53 ?_
      have ecell : (upd (fun k_ => nI (tx k_)) tl (nI v)) = (fun k_ => nI (wrX tx tl (nI v) k_)) := by rw [wrX, if_pos okl, if_pos (by omega), K_n (by omega)]; exact up1_row _ _ _
      refine g_ws (ws2 := [(mo, o6 rm (nI (tl + 1)) pl (nI np) (nI nq) (nI nd) rt rp rq rd (nI cnt) (nI na) sd rw rx tm tf sm sf), (rm 0, .inl (cI, 48, .inl (fun k_ => nI (wrX tx tl (nI v) k_))))]) (congrArg (fun zz : Nat → Int32 => ([(mo, o6 rm (nI (tl + 1)) pl (nI np) (nI nq) (nI nd) rt rp rq rd (nI cnt) (nI na) sd rw rx tm tf sm sf), (rm 0, .inl (cI, 48, .inl zz))] : va_W)) ecell) ?_
      have efld : (tl + 1 : Nat) = wrL tl (nI v) := by rw [wrL, if_pos okl, if_pos (by omega)]
      refine g_ws (ws2 := [(mo, o6 rm (nI (wrL tl (nI v))) pl (nI np) (nI nq) (nI nd) rt rp rq rd (nI cnt) (nI na) sd rw rx tm tf sm sf), (rm 0, .inl (cI, 48, .inl (fun k_ => nI (wrX tx tl (nI v) k_))))]) (congrArg (fun zz : Nat => ([(mo, o6 rm (nI zz) pl (nI np) (nI nq) (nI nd) rt rp rq rd (nI cnt) (nI na) sd rw rx tm tf sm sf), (rm 0, .inl (cI, 48, .inl (fun k_ => nI (wrX tx tl (nI v) k_))))] : va_W)) efld) ?_
      subst hQ
      refine g_iret (v := nI (tl + 1)) hC () hr ?_ rfl dX6_write_56
      rw [wrR, if_pos okl, if_pos (by omega)]
    have ecell : (fun k_ => nI (tx k_)) = (fun k_ => nI (wrX tx tl (nI v) k_)) := by rw [wrX, if_pos okl, if_neg (by omega)]
    refine g_ws (ws2 := [(mo, o6 rm (nI tl) pl (nI np) (nI nq) (nI nd) rt rp rq rd (nI cnt) (nI na) sd rw rx tm tf sm sf), (rm 0, .inl (cI, 48, .inl (fun k_ => nI (wrX tx tl (nI v) k_))))]) (congrArg (fun zz : Nat → Int32 => ([(mo, o6 rm (nI tl) pl (nI np) (nI nq) (nI nd) rt rp rq rd (nI cnt) (nI na) sd rw rx tm tf sm sf), (rm 0, .inl (cI, 48, .inl zz))] : va_W)) ecell) ?_
    have efld : (tl : Nat) = wrL tl (nI v) := by rw [wrL, if_pos okl, if_neg (by omega)]
    refine g_ws (ws2 := [(mo, o6 rm (nI (wrL tl (nI v))) pl (nI np) (nI nq) (nI nd) rt rp rq rd (nI cnt) (nI na) sd rw rx tm tf sm sf), (rm 0, .inl (cI, 48, .inl (fun k_ => nI (wrX tx tl (nI v) k_))))]) (congrArg (fun zz : Nat => ([(mo, o6 rm (nI zz) pl (nI np) (nI nq) (nI nd) rt rp rq rd (nI cnt) (nI na) sd rw rx tm tf sm sf), (rm 0, .inl (cI, 48, .inl (fun k_ => nI (wrX tx tl (nI v) k_))))] : va_W)) efld) ?_
    refine g_bipush (v := (-4)) hC dX6_write_29 (by decide +kernel) ?_
    subst hQ
    refine g_iret (v := -4) hC () hr ?_ rfl dX6_write_31
    rw [wrR, if_pos okl, if_neg (by omega)]
  have no : ¬ okL a := h14f
  have ecell : (fun k_ => nI (tx k_)) = (fun k_ => nI (wrX tx tl a k_)) := by rw [wrX, if_neg no]
  refine g_ws (ws2 := [(mo, o6 rm (nI tl) pl (nI np) (nI nq) (nI nd) rt rp rq rd (nI cnt) (nI na) sd rw rx tm tf sm sf), (rm 0, .inl (cI, 48, .inl (fun k_ => nI (wrX tx tl a k_))))]) (congrArg (fun zz : Nat → Int32 => ([(mo, o6 rm (nI tl) pl (nI np) (nI nq) (nI nd) rt rp rq rd (nI cnt) (nI na) sd rw rx tm tf sm sf), (rm 0, .inl (cI, 48, .inl zz))] : va_W)) ecell) ?_
  have efld : (tl : Nat) = wrL tl a := by rw [wrL, if_neg no]
  refine g_ws (ws2 := [(mo, o6 rm (nI (wrL tl a)) pl (nI np) (nI nq) (nI nd) rt rp rq rd (nI cnt) (nI na) sd rw rx tm tf sm sf), (rm 0, .inl (cI, 48, .inl (fun k_ => nI (wrX tx tl a k_))))]) (congrArg (fun zz : Nat => ([(mo, o6 rm (nI zz) pl (nI np) (nI nq) (nI nd) rt rp rq rd (nI cnt) (nI na) sd rw rx tm tf sm sf), (rm 0, .inl (cI, 48, .inl (fun k_ => nI (wrX tx tl a k_))))] : va_W)) efld) ?_
  refine g_bipush (v := (-2)) hC dX6_write_17 (by decide +kernel) ?_
  subst hQ
  refine g_iret (v := -2) hC () hr ?_ rfl dX6_write_19
  rw [wrR, if_neg no]

abbrev rm_X6_wipe : Room := { frames := 0, cells := 0, slots := 0, locals := 0 }
set_option maxRecDepth 100000 in
set_option maxHeartbeats 4000000 in
theorem c_X6_wipe (l : Launch) (D : va_G) (cI cZ : ClassId) (mo : Nat) (rm : Nat → Nat) (tl : Nat) (pl : Int32) (np : Nat) (nq : Nat) (nd : Nat) (rt : Int32) (rp : Int32) (rq : Int32) (rd : Int32) (cnt : Nat) (na : Nat) (sd : Int64) (rw : Int32) (rx : Int32) (tm : Int32) (tf : Int32) (sm : Int32) (sf : Int32) : CtI l yX6_wipe wsX6_wipe rm_X6_wipe D cI cZ [.ref mo] [(mo, o6 rm (nI tl) pl (nI np) (nI nq) (nI nd) rt rp rq rd (nI cnt) (nI na) sd rw rx tm tf sm sf)] (fun r (_ : Unit) => r = nI tl) (fun (_ : Unit) => [(mo, o6 rm (nI 0) pl (nI np) (nI nq) (nI nd) rt rp rq rd (nI cnt) (nI na) sd rw rx tm tf sm sf)]) 0 0 := by
  refine g_startI (ret := (some .int)) (own := RX6) (lv0 := [(0, .ref mo)]) (by decide) rfl rfl (Nat.le_of_ble_eq_true rfl) rfl ?_
  intro p e s m args below meth cd A Q hin hr hQ hC
  have hcw6 : ∀ w ∈ wsX60, w ∈ wsX6_wipe := fun _ h => List.mem_cons_of_mem _ (List.mem_append_right _ h)
  have w1 := hC.1.2.2.2.2 (.fieldLink "PluckBrokerModel" 68 "PluckBrokerModel" "thrown" "I") (List.mem_of_getElem? (i := 1) rfl)
  have w2 := hC.1.2.2.2.2 (.fieldLink "PluckBrokerModel" 87 "PluckBrokerModel" "textSize" "I") (List.mem_of_getElem? (i := 2) rfl)
  refine g_aload_n hC 0 dX6_wipe_0 rfl rfl ?_
  refine g_iconst (v := nI 0) hC dX6_wipe_1 rfl ?_
  refine g_put (C := RX6) (T := TX6) (N := 38) (ci := 6) (v := .int (nI 0)) hC hcw6 tyX6 tyX6_ok nmX6 0 rfl rfl 0 (by decide) w1 (fun _ h => h) rfl (tyX6_ok 0 (by decide)) rfl rfl (Nat.le_of_ble_eq_true rfl) [(mo, o6 rm (nI tl) pl (nI np) (nI nq) (nI nd) rt rp rq rd (nI cnt) (nI na) sd rw rx tm tf sm sf)] rfl dX6_wipe_2 ?_
  refine g_aload_n hC 0 dX6_wipe_5 rfl rfl ?_
  refine g_get (C := RX6) (T := TX6) (N := 38) (ci := 6) (v := .int (nI tl)) hC hcw6 0 rfl rfl 2 (by decide) w2 (fun _ h => h) rfl dX6_wipe_6 ?_
  refine g_istore_n (lv' := [(0, .ref mo), (1, .int (nI tl))]) hC [1, 0] dX6_wipe_9 rfl (by decide) rfl ?_
  refine g_aload_n hC 0 dX6_wipe_10 rfl rfl ?_
  refine g_iconst (v := nI 0) hC dX6_wipe_11 rfl ?_
  refine g_put (C := RX6) (T := TX6) (N := 38) (ci := 6) (v := .int (nI 0)) hC hcw6 tyX6 tyX6_ok nmX6 0 rfl rfl 2 (by decide) w2 (fun _ h => h) rfl (tyX6_ok 2 (by decide)) rfl rfl (Nat.le_of_ble_eq_true rfl) [(mo, o6 rm (nI 0) pl (nI np) (nI nq) (nI nd) rt rp rq rd (nI cnt) (nI na) sd rw rx tm tf sm sf)] rfl dX6_wipe_12 ?_
  refine g_iload_n hC 1 dX6_wipe_15 rfl rfl ?_
  subst hQ
  refine g_iret (v := nI tl) hC () hr ?_ rfl dX6_wipe_16
  rfl
