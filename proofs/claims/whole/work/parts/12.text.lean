abbrev rm_X4_append : Room := { frames := 1, cells := 0, slots := 0, locals := 22 }
set_option maxRecDepth 100000 in
set_option maxHeartbeats 4000000 in
theorem c_X4_append (l : Launch) (D : va_G) (cI cZ : ClassId) (ht : Nat) (hb : Nat) (tx : Nat → Nat) (tl : Nat) (cur : Nat) (v : Nat) (hl : tl < 48) : CtV l yX4_append wsX4_append rm_X4_append D cI cZ [.ref ht, .int (nI v)] [(ht, .inr (4, [.ref hb, .int (nI tl), .int (nI cur)])), (hb, .inl (cI, 48, .inl (fun k_ => nI (tx k_))))] (fun (_ : Unit) => True) (fun (_ : Unit) => [(ht, .inr (4, [.ref hb, .int (nI (tl + 1)), .int (nI cur)])), (hb, .inl (cI, 48, .inl (fun k_ => nI (up1 tx tl v k_))))]) 0 0 := by
  refine g_startV (ret := none) (own := RX4) (lv0 := [(0, .ref ht), (1, .int (nI v))]) (by decide) rfl rfl (Nat.le_of_ble_eq_true rfl) rfl ?_
  intro p e s m args below meth cd A Q hin hr hQ hC
  have hcw4 : ∀ w ∈ wsX40, w ∈ wsX4_append := fun _ h => List.mem_cons_of_mem _ (List.mem_append_right _ h)
  have w1 := hC.1.2.2.2.2 (.fieldLink "PluckBroker$Text" 9 "PluckBroker$Text" "bytes" "[I") (List.mem_of_getElem? (i := 1) rfl)
  have w2 := hC.1.2.2.2.2 (.fieldLink "PluckBroker$Text" 15 "PluckBroker$Text" "length" "I") (List.mem_of_getElem? (i := 2) rfl)
  have w3 := hC.1.2.2.2.2 (.static ⟨"PluckBroker", "put", "([III)V"⟩) (List.mem_of_getElem? (i := 3) rfl)
  have w4 := hC.1.2.2.2.2 (.initialized "PluckBroker") (List.mem_of_getElem? (i := 4) rfl)
  refine g_aload_n hC 0 dX4_append_0 rfl rfl ?_
  refine g_get (C := RX4) (T := TX4) (N := 3) (ci := 4) (v := .ref hb) hC hcw4 0 rfl rfl 0 (by decide) w1 (fun _ h => h) rfl dX4_append_1 ?_
  refine g_aload_n hC 0 dX4_append_4 rfl rfl ?_
  refine g_get (C := RX4) (T := TX4) (N := 3) (ci := 4) (v := .int (nI tl)) hC hcw4 0 rfl rfl 1 (by decide) w2 (fun _ h => h) rfl dX4_append_5 ?_
  refine g_iload_n hC 1 dX4_append_8 rfl rfl ?_
  refine g_callSNv (As := [.ref hb, .int (nI tl), .int (nI v)]) (rest := []) hC (c_X5_put l D cI cZ hb 48 (fun k_ => nI (tx k_)) tl (nI v) (by first | assumption | omega) (by first | assumption | omega)) ⟨va_cnB 3 hC.1.2.2.2.2 gX4_append_X5_put_n19 rfl rfl rfl (hC.2.2.1.m 4 rfl) w4 dS_X5_put ⟨Nat.le_of_ble_eq_true rfl, Nat.le_of_ble_eq_true rfl⟩, w3, trivial⟩ rfl rfl (Nat.le_of_ble_eq_true rfl) dX4_append_9 ⟨Nat.le_of_ble_eq_true rfl, Nat.le_of_ble_eq_true rfl⟩ [1] [0] [0, 1] (fun (_ : Unit) => [(ht, .inr (4, [.ref hb, .int (nI tl), .int (nI cur)])), (hb, .inl (cI, 48, .inl (upd (fun k_ => nI (tx k_)) tl (nI v))))]) rfl rfl rfl (fun _ => rfl) (fun z9 hp9 => ?_)
  refine g_is (ws2 := [(ht, .inr (4, [.ref hb, .int (nI tl), .int (nI cur)])), (hb, .inl (cI, 48, .inl (upd (fun k_ => nI (tx k_)) tl (nI v))))]) (lv2 := [(0, .ref ht), (1, .int (nI v))]) (st2 := []) rfl rfl rfl ?_
  have ecell : (upd (fun k_ => nI (tx k_)) tl (nI v)) = (fun k_ => nI (up1 tx tl v k_)) := by exact up1_row _ _ _
  refine g_ws (ws2 := [(ht, .inr (4, [.ref hb, .int (nI tl), .int (nI cur)])), (hb, .inl (cI, 48, .inl (fun k_ => nI (up1 tx tl v k_))))]) (congrArg (fun zz : Nat → Int32 => ([(ht, .inr (4, [.ref hb, .int (nI tl), .int (nI cur)])), (hb, .inl (cI, 48, .inl zz))] : va_W)) ecell) ?_
  refine g_aload_n hC 0 dX4_append_12 rfl rfl ?_
  refine g_dup hC dX4_append_13 rfl ?_
  refine g_get (C := RX4) (T := TX4) (N := 3) (ci := 4) (v := .int (nI tl)) hC hcw4 0 rfl rfl 1 (by decide) w2 (fun _ h => h) rfl dX4_append_14 ?_
  refine g_iconst (v := nI 1) hC dX4_append_17 rfl ?_
  refine g_iadd_n (a := tl) (b := 1) hC dX4_append_18 ?_
  refine g_put (C := RX4) (T := TX4) (N := 3) (ci := 4) (v := .int (nI (tl + 1))) hC hcw4 tyX4 tyX4_ok nmX4 0 rfl rfl 1 (by decide) w2 (fun _ h => h) rfl (tyX4_ok 1 (by decide)) rfl rfl (Nat.le_of_ble_eq_true rfl) [(ht, .inr (4, [.ref hb, .int (nI (tl + 1)), .int (nI cur)])), (hb, .inl (cI, 48, .inl (fun k_ => nI (up1 tx tl v k_))))] rfl dX4_append_19 ?_
  subst hQ
  refine g_vret hC () hr ?_ rfl dX4_append_22
  trivial

abbrev rm_X4_upcoming : Room := { frames := 1, cells := 0, slots := 0, locals := 21 }
set_option maxRecDepth 100000 in
set_option maxHeartbeats 4000000 in
theorem c_X4_upcoming (l : Launch) (D : va_G) (cI cZ : ClassId) (ht : Nat) (hb : Nat) (tx : Nat → Nat) (tl : Nat) (cur : Nat) (hl : tl ≤ 48) (hc : cur < tl) : CtI l yX4_upcoming wsX4_upcoming rm_X4_upcoming D cI cZ [.ref ht] [(ht, .inr (4, [.ref hb, .int (nI tl), .int (nI cur)])), (hb, .inl (cI, 48, .inl (fun k_ => nI (tx k_))))] (fun r (_ : Unit) => r = nI (tx cur)) (fun (_ : Unit) => [(ht, .inr (4, [.ref hb, .int (nI tl), .int (nI cur)])), (hb, .inl (cI, 48, .inl (fun k_ => nI (tx k_))))]) 0 0 := by
  refine g_startI (ret := (some .int)) (own := RX4) (lv0 := [(0, .ref ht)]) (by decide) rfl rfl (Nat.le_of_ble_eq_true rfl) rfl ?_
  intro p e s m args below meth cd A Q hin hr hQ hC
  have hcw4 : ∀ w ∈ wsX40, w ∈ wsX4_upcoming := fun _ h => List.mem_cons_of_mem _ (List.mem_append_right _ h)
  have w1 := hC.1.2.2.2.2 (.fieldLink "PluckBroker$Text" 28 "PluckBroker$Text" "cursor" "I") (List.mem_of_getElem? (i := 1) rfl)
  have w2 := hC.1.2.2.2.2 (.fieldLink "PluckBroker$Text" 15 "PluckBroker$Text" "length" "I") (List.mem_of_getElem? (i := 2) rfl)
  have w3 := hC.1.2.2.2.2 (.fieldLink "PluckBroker$Text" 9 "PluckBroker$Text" "bytes" "[I") (List.mem_of_getElem? (i := 3) rfl)
  have w4 := hC.1.2.2.2.2 (.static ⟨"PluckBroker", "cell", "([II)I"⟩) (List.mem_of_getElem? (i := 4) rfl)
  have w5 := hC.1.2.2.2.2 (.initialized "PluckBroker") (List.mem_of_getElem? (i := 5) rfl)
  refine g_aload_n hC 0 dX4_upcoming_0 rfl rfl ?_
  refine g_get (C := RX4) (T := TX4) (N := 3) (ci := 4) (v := .int (nI cur)) hC hcw4 0 rfl rfl 2 (by decide) w1 (fun _ h => h) rfl dX4_upcoming_1 ?_
  refine g_aload_n hC 0 dX4_upcoming_4 rfl rfl ?_
  refine g_get (C := RX4) (T := TX4) (N := 3) (ci := 4) (v := .int (nI tl)) hC hcw4 0 rfl rfl 1 (by decide) w2 (fun _ h => h) rfl dX4_upcoming_5 ?_
  refine g_icmp_ge_n (a := cur) (b := tl) hC (by omega) (by omega) 25 dX4_upcoming_8 (by decide) (fun q => (by omega : False).elim) (fun h8f => ?_)
  refine g_aload_n hC 0 dX4_upcoming_11 rfl rfl ?_
  refine g_get (C := RX4) (T := TX4) (N := 3) (ci := 4) (v := .ref hb) hC hcw4 0 rfl rfl 0 (by decide) w3 (fun _ h => h) rfl dX4_upcoming_12 ?_
  refine g_aload_n hC 0 dX4_upcoming_15 rfl rfl ?_
  refine g_get (C := RX4) (T := TX4) (N := 3) (ci := 4) (v := .int (nI cur)) hC hcw4 0 rfl rfl 2 (by decide) w1 (fun _ h => h) rfl dX4_upcoming_16 ?_
  refine g_callSNip (As := [.ref hb, .int (nI cur)]) (rest := []) hC (nI (tx cur)) (c_X5_cell l D cI cZ hb 48 (fun k_ => nI (tx k_)) cur (by first | assumption | omega) (by first | assumption | omega)) ⟨va_cnB 2 hC.1.2.2.2.2 gX4_upcoming_X5_cell_n75 rfl rfl rfl (hC.2.2.1.m 5 rfl) w5 dS_X5_cell ⟨Nat.le_of_ble_eq_true rfl, Nat.le_of_ble_eq_true rfl⟩, w4, trivial⟩ rfl rfl (Nat.le_of_ble_eq_true rfl) dX4_upcoming_19 ⟨Nat.le_of_ble_eq_true rfl, Nat.le_of_ble_eq_true rfl⟩ [1] rfl rfl ?_
  refine g_goto hC 26 dX4_upcoming_22 (by decide) ?_
  subst hQ
  refine g_iret (v := nI (tx cur)) hC () hr ?_ rfl dX4_upcoming_26
  rfl

abbrev rm_X4_upcoming_no : Room := { frames := 0, cells := 0, slots := 0, locals := 0 }
set_option maxRecDepth 100000 in
set_option maxHeartbeats 4000000 in
theorem c_X4_upcoming_no (l : Launch) (D : va_G) (cI cZ : ClassId) (ht : Nat) (hb : Nat) (tx : Nat → Nat) (tl : Nat) (cur : Nat) (hl : tl ≤ 48) (hc : tl ≤ cur) (hcl : cur ≤ 48) : CtI l yX4_upcoming wsX4_upcoming rm_X4_upcoming_no D cI cZ [.ref ht] [(ht, .inr (4, [.ref hb, .int (nI tl), .int (nI cur)])), (hb, .inl (cI, 48, .inl (fun k_ => nI (tx k_))))] (fun r (_ : Unit) => r = -1) (fun (_ : Unit) => [(ht, .inr (4, [.ref hb, .int (nI tl), .int (nI cur)])), (hb, .inl (cI, 48, .inl (fun k_ => nI (tx k_))))]) 0 0 := by
  refine g_startI (ret := (some .int)) (own := RX4) (lv0 := [(0, .ref ht)]) (by decide) rfl rfl (Nat.le_of_ble_eq_true rfl) rfl ?_
  intro p e s m args below meth cd A Q hin hr hQ hC
  have hcw4 : ∀ w ∈ wsX40, w ∈ wsX4_upcoming := fun _ h => List.mem_cons_of_mem _ (List.mem_append_right _ h)
  have w1 := hC.1.2.2.2.2 (.fieldLink "PluckBroker$Text" 28 "PluckBroker$Text" "cursor" "I") (List.mem_of_getElem? (i := 1) rfl)
  have w2 := hC.1.2.2.2.2 (.fieldLink "PluckBroker$Text" 15 "PluckBroker$Text" "length" "I") (List.mem_of_getElem? (i := 2) rfl)
  refine g_aload_n hC 0 dX4_upcoming_0 rfl rfl ?_
  refine g_get (C := RX4) (T := TX4) (N := 3) (ci := 4) (v := .int (nI cur)) hC hcw4 0 rfl rfl 2 (by decide) w1 (fun _ h => h) rfl dX4_upcoming_1 ?_
  refine g_aload_n hC 0 dX4_upcoming_4 rfl rfl ?_
  refine g_get (C := RX4) (T := TX4) (N := 3) (ci := 4) (v := .int (nI tl)) hC hcw4 0 rfl rfl 1 (by decide) w2 (fun _ h => h) rfl dX4_upcoming_5 ?_
  refine g_icmp_ge_n (a := cur) (b := tl) hC (by omega) (by omega) 25 dX4_upcoming_8 (by decide) (fun h8t => ?_) (fun q => (by omega : False).elim)
  refine g_iconst (v := (-1)) hC dX4_upcoming_25 rfl ?_
  subst hQ
  refine g_iret (v := -1) hC () hr ?_ rfl dX4_upcoming_26
  rfl

abbrev rm_X4_figure : Room := { frames := 2, cells := 0, slots := 0, locals := 41 }
set_option maxRecDepth 100000 in
set_option maxHeartbeats 4000000 in
theorem c_X4_figure (l : Launch) (D : va_G) (cI cZ : ClassId) (ht : Nat) (hb : Nat) (tx : Nat → Nat) (tl : Nat) (cur : Nat) (lo : Nat) (hi : Nat) (hl : tl ≤ 48) (htx : ∀ k, tx k < 256) (hcl : cur ≤ 48) (hlo : lo < 100) (hhi : hi < 100) : CtI l yX4_figure wsX4_figure rm_X4_figure D cI cZ [.ref ht, .int (nI lo), .int (nI hi)] [(ht, .inr (4, [.ref hb, .int (nI tl), .int (nI cur)])), (hb, .inl (cI, 48, .inl (fun k_ => nI (tx k_))))] (fun r (_ : Unit) => r = figV tx tl cur lo hi) (fun (_ : Unit) => [(ht, .inr (4, [.ref hb, .int (nI tl), .int (nI (figC tx tl cur lo hi))])), (hb, .inl (cI, 48, .inl (fun k_ => nI (tx k_))))]) 0 0 := by
  refine g_startI (ret := (some .int)) (own := RX4) (lv0 := [(0, .ref ht), (1, .int (nI lo)), (2, .int (nI hi))]) (by decide) rfl rfl (Nat.le_of_ble_eq_true rfl) rfl ?_
  intro p e s m args below meth cd A Q hin hr hQ hC
  have hcw4 : ∀ w ∈ wsX40, w ∈ wsX4_figure := fun _ h => List.mem_cons_of_mem _ (List.mem_append_right _ h)
  have w1 := hC.1.2.2.2.2 (.fieldLink "PluckBroker$Text" 28 "PluckBroker$Text" "cursor" "I") (List.mem_of_getElem? (i := 1) rfl)
  have hxc := htx cur
  by_cases hc : cur < tl
  · refine g_aload_n hC 0 dX4_figure_0 rfl rfl ?_
    refine g_callVip (As := []) (rest := []) hC (nI (tx cur)) (c_X4_upcoming l D cI cZ ht hb tx tl cur (by first | assumption | omega) hc) (cwV 0 hC.1.2.2.2.2 gX4_figure_X4_upcoming rfl rfl rfl dV_X4_upcoming ⟨Nat.le_of_ble_eq_true rfl, Nat.le_of_ble_eq_true rfl⟩) rfl rfl rfl rfl (Nat.le_of_ble_eq_true rfl) dX4_figure_1 ⟨Nat.le_of_ble_eq_true rfl, Nat.le_of_ble_eq_true rfl⟩ [0, 1] rfl rfl ?_
    refine g_istore_n (lv' := [(0, .ref ht), (1, .int (nI lo)), (2, .int (nI hi)), (3, .int (nI (tx cur)))]) hC [1, 2, 3, 0] dX4_figure_4 rfl (by decide) rfl ?_
    refine g_iload_n hC 3 dX4_figure_5 rfl rfl ?_
    refine g_bipush (v := nI 48) hC dX4_figure_6 (by decide +kernel) ?_
    refine g_iload_n hC 1 dX4_figure_8 rfl rfl ?_
    refine g_iadd_n (a := 48) (b := lo) hC dX4_figure_9 ?_
    refine g_icmp_lt_n (a := (tx cur)) (b := (48 + lo)) hC (by omega) (by omega) 21 dX4_figure_10 (by decide) (fun h10t => ?_) (fun h10f => ?_)
    · have efld : (cur : Nat) = figC tx tl cur lo hi := by rw [figC_n (by omega)]
      refine g_ws (ws2 := [(ht, .inr (4, [.ref hb, .int (nI tl), .int (nI (figC tx tl cur lo hi))])), (hb, .inl (cI, 48, .inl (fun k_ => nI (tx k_))))]) (congrArg (fun zz : Nat => ([(ht, .inr (4, [.ref hb, .int (nI tl), .int (nI zz)])), (hb, .inl (cI, 48, .inl (fun k_ => nI (tx k_))))] : va_W)) efld) ?_
      refine g_iconst (v := (-1)) hC dX4_figure_21 rfl ?_
      subst hQ
      refine g_iret (v := -1) hC () hr ?_ rfl dX4_figure_22
      exact (figV_n (by omega)).symm
    refine g_iload_n hC 3 dX4_figure_13 rfl rfl ?_
    refine g_bipush (v := nI 48) hC dX4_figure_14 (by decide +kernel) ?_
    refine g_iload_n hC 2 dX4_figure_16 rfl rfl ?_
    refine g_iadd_n (a := 48) (b := hi) hC dX4_figure_17 ?_
    refine g_icmp_le_n (a := (tx cur)) (b := (48 + hi)) hC (by omega) (by omega) 23 dX4_figure_18 (by decide) (fun h18t => ?_) (fun h18f => ?_)
    · refine g_aload_n hC 0 dX4_figure_23 rfl rfl ?_
      refine g_dup hC dX4_figure_24 rfl ?_
      refine g_get (C := RX4) (T := TX4) (N := 3) (ci := 4) (v := .int (nI cur)) hC hcw4 0 rfl rfl 2 (by decide) w1 (fun _ h => h) rfl dX4_figure_25 ?_
      refine g_iconst (v := nI 1) hC dX4_figure_28 rfl ?_
      refine g_iadd_n (a := cur) (b := 1) hC dX4_figure_29 ?_
      refine g_put (C := RX4) (T := TX4) (N := 3) (ci := 4) (v := .int (nI (cur + 1))) hC hcw4 tyX4 tyX4_ok nmX4 0 rfl rfl 2 (by decide) w1 (fun _ h => h) rfl (tyX4_ok 2 (by decide)) rfl rfl (Nat.le_of_ble_eq_true rfl) [(ht, .inr (4, [.ref hb, .int (nI tl), .int (nI (cur + 1))])), (hb, .inl (cI, 48, .inl (fun k_ => nI (tx k_))))] rfl dX4_figure_30 ?_
      have efld : (cur + 1 : Nat) = figC tx tl cur lo hi := by rw [figC_e (by omega)]
      refine g_ws (ws2 := [(ht, .inr (4, [.ref hb, .int (nI tl), .int (nI (figC tx tl cur lo hi))])), (hb, .inl (cI, 48, .inl (fun k_ => nI (tx k_))))]) (congrArg (fun zz : Nat => ([(ht, .inr (4, [.ref hb, .int (nI tl), .int (nI zz)])), (hb, .inl (cI, 48, .inl (fun k_ => nI (tx k_))))] : va_W)) efld) ?_
      refine g_iload_n hC 3 dX4_figure_33 rfl rfl ?_
      refine g_bipush (v := nI 48) hC dX4_figure_34 (by decide +kernel) ?_
      refine g_isub_n (a := (tx cur)) (b := 48) hC (by omega) dX4_figure_36 ?_
      subst hQ
      refine g_iret (v := nI (tx cur - 48)) hC () hr ?_ rfl dX4_figure_37
      exact (figV_e (by omega)).symm
    have efld : (cur : Nat) = figC tx tl cur lo hi := by rw [figC_n (by omega)]
    refine g_ws (ws2 := [(ht, .inr (4, [.ref hb, .int (nI tl), .int (nI (figC tx tl cur lo hi))])), (hb, .inl (cI, 48, .inl (fun k_ => nI (tx k_))))]) (congrArg (fun zz : Nat => ([(ht, .inr (4, [.ref hb, .int (nI tl), .int (nI zz)])), (hb, .inl (cI, 48, .inl (fun k_ => nI (tx k_))))] : va_W)) efld) ?_
    refine g_iconst (v := (-1)) hC dX4_figure_21 rfl ?_
    subst hQ
    refine g_iret (v := -1) hC () hr ?_ rfl dX4_figure_22
    exact (figV_n (by omega)).symm
  refine g_aload_n hC 0 dX4_figure_0 rfl rfl ?_
  refine g_callVip (As := []) (rest := []) hC (-1) (c_X4_upcoming_no l D cI cZ ht hb tx tl cur (by first | assumption | omega) (Nat.not_lt.mp hc) (by first | assumption | omega)) (cwV 0 hC.1.2.2.2.2 gX4_figure_X4_upcoming rfl rfl rfl dV_X4_upcoming ⟨Nat.le_of_ble_eq_true rfl, Nat.le_of_ble_eq_true rfl⟩) rfl rfl rfl rfl (Nat.le_of_ble_eq_true rfl) dX4_figure_1 ⟨Nat.le_of_ble_eq_true rfl, Nat.le_of_ble_eq_true rfl⟩ [0, 1] rfl rfl ?_
  refine g_istore_n (lv' := [(0, .ref ht), (1, .int (nI lo)), (2, .int (nI hi)), (3, .int (-1))]) hC [1, 2, 3, 0] dX4_figure_4 rfl (by decide) rfl ?_
  refine g_iload_n hC 3 dX4_figure_5 rfl rfl ?_
  refine g_bipush (v := nI 48) hC dX4_figure_6 (by decide +kernel) ?_
  refine g_iload_n hC 1 dX4_figure_8 rfl rfl ?_
  refine g_iadd_n (a := 48) (b := lo) hC dX4_figure_9 ?_
  refine g_icmp_lt hC 21 dX4_figure_10 (by decide) (fun h10t => ?_) (fun h10f => ?_)
  · have efld : (cur : Nat) = figC tx tl cur lo hi := by rw [figC_n (by exact fun q => hc q.1)]
    refine g_ws (ws2 := [(ht, .inr (4, [.ref hb, .int (nI tl), .int (nI (figC tx tl cur lo hi))])), (hb, .inl (cI, 48, .inl (fun k_ => nI (tx k_))))]) (congrArg (fun zz : Nat => ([(ht, .inr (4, [.ref hb, .int (nI tl), .int (nI zz)])), (hb, .inl (cI, 48, .inl (fun k_ => nI (tx k_))))] : va_W)) efld) ?_
    refine g_iconst (v := (-1)) hC dX4_figure_21 rfl ?_
    subst hQ
    refine g_iret (v := -1) hC () hr ?_ rfl dX4_figure_22
    exact (figV_n (by exact fun q => hc q.1)).symm
  exact absurd (Int32.not_lt.mp h10f) (by rw [Int32.not_le]; exact Int32.lt_of_lt_of_le (by decide) (nI_pos' (by omega)))

abbrev rm_X2_clear : Room := { frames := 0, cells := 0, slots := 0, locals := 0 }
set_option maxRecDepth 100000 in
set_option maxHeartbeats 4000000 in
theorem c_X2_clear (l : Launch) (D : va_G) (cI cZ : ClassId) (hp : Nat) (r : Nat → Nat) (ti : Int32) (np : Nat) (nq : Nat) (nd : Nat) : CtV l yX2_clear wsX2_clear rm_X2_clear D cI cZ [.ref hp] [(hp, o2 r ti np nq nd)] (fun (_ : Unit) => True) (fun (_ : Unit) => [(hp, o2 r (nI 0) 0 0 0)]) 0 0 := by
  refine g_startV (ret := none) (own := RX2) (lv0 := [(0, .ref hp)]) (by decide) rfl rfl (Nat.le_of_ble_eq_true rfl) rfl ?_
  intro p e s m args below meth cd A Q hin hr hQ hC
  have hcw2 : ∀ w ∈ wsX20, w ∈ wsX2_clear := fun _ h => List.mem_cons_of_mem _ (List.mem_append_right _ h)
  have w1 := hC.1.2.2.2.2 (.fieldLink "PluckBroker$Plan" 33 "PluckBroker$Plan" "tillFigure" "I") (List.mem_of_getElem? (i := 1) rfl)
  have w2 := hC.1.2.2.2.2 (.fieldLink "PluckBroker$Plan" 37 "PluckBroker$Plan" "persons" "I") (List.mem_of_getElem? (i := 2) rfl)
  have w3 := hC.1.2.2.2.2 (.fieldLink "PluckBroker$Plan" 40 "PluckBroker$Plan" "qualities" "I") (List.mem_of_getElem? (i := 3) rfl)
  have w4 := hC.1.2.2.2.2 (.fieldLink "PluckBroker$Plan" 43 "PluckBroker$Plan" "deeds" "I") (List.mem_of_getElem? (i := 4) rfl)
  refine g_aload_n hC 0 dX2_clear_0 rfl rfl ?_
  refine g_iconst (v := nI 0) hC dX2_clear_1 rfl ?_
  refine g_put (C := RX2) (T := TX2) (N := 11) (ci := 2) (v := .int (nI 0)) hC hcw2 tyX2 tyX2_ok nmX2 0 rfl rfl 7 (by decide) w1 (fun _ h => h) rfl (tyX2_ok 7 (by decide)) rfl rfl (Nat.le_of_ble_eq_true rfl) [(hp, o2 r (nI 0) np nq nd)] rfl dX2_clear_2 ?_
  refine g_aload_n hC 0 dX2_clear_5 rfl rfl ?_
  refine g_iconst (v := nI 0) hC dX2_clear_6 rfl ?_
  refine g_put (C := RX2) (T := TX2) (N := 11) (ci := 2) (v := .int (nI 0)) hC hcw2 tyX2 tyX2_ok nmX2 0 rfl rfl 8 (by decide) w2 (fun _ h => h) rfl (tyX2_ok 8 (by decide)) rfl rfl (Nat.le_of_ble_eq_true rfl) [(hp, o2 r (nI 0) 0 nq nd)] rfl dX2_clear_7 ?_
  refine g_aload_n hC 0 dX2_clear_10 rfl rfl ?_
  refine g_iconst (v := nI 0) hC dX2_clear_11 rfl ?_
  refine g_put (C := RX2) (T := TX2) (N := 11) (ci := 2) (v := .int (nI 0)) hC hcw2 tyX2 tyX2_ok nmX2 0 rfl rfl 9 (by decide) w3 (fun _ h => h) rfl (tyX2_ok 9 (by decide)) rfl rfl (Nat.le_of_ble_eq_true rfl) [(hp, o2 r (nI 0) 0 0 nd)] rfl dX2_clear_12 ?_
  refine g_aload_n hC 0 dX2_clear_15 rfl rfl ?_
  refine g_iconst (v := nI 0) hC dX2_clear_16 rfl ?_
  refine g_put (C := RX2) (T := TX2) (N := 11) (ci := 2) (v := .int (nI 0)) hC hcw2 tyX2 tyX2_ok nmX2 0 rfl rfl 10 (by decide) w4 (fun _ h => h) rfl (tyX2_ok 10 (by decide)) rfl rfl (Nat.le_of_ble_eq_true rfl) [(hp, o2 r (nI 0) 0 0 0)] rfl dX2_clear_17 ?_
  subst hQ
  refine g_vret hC () hr ?_ rfl dX2_clear_20
  trivial

abbrev rm_X2_addPerson : Room := { frames := 1, cells := 0, slots := 0, locals := 22 }
set_option maxRecDepth 100000 in
set_option maxHeartbeats 4000000 in
theorem c_X2_addPerson (l : Launch) (D : va_G) (cI cZ : ClassId) (hp : Nat) (r : Nat → Nat) (ti : Int32) (np : Nat) (nq : Nat) (nd : Nat) (pu : Nat → Nat) (P : Nat → Nat → Nat) (v : Nat) (hb : np < 3) : CtV l yX2_addPerson wsX2_addPerson rm_X2_addPerson D cI cZ [.ref hp, .int (nI v)] [(hp, o2 r ti np nq nd), (r 0, .inl (cI, 3, .inl (fun k_ => nI (pu k_))))] (fun (_ : Unit) => True) (fun (_ : Unit) => [(hp, o2 r ti (np + 1) nq nd), (r 0, .inl (cI, 3, .inl (fun k_ => nI ((up1 pu np v) k_))))]) 0 0 := by
  refine g_startV (ret := none) (own := RX2) (lv0 := [(0, .ref hp), (1, .int (nI v))]) (by decide) rfl rfl (Nat.le_of_ble_eq_true rfl) rfl ?_
  intro p e s m args below meth cd A Q hin hr hQ hC
  have hcw2 : ∀ w ∈ wsX20, w ∈ wsX2_addPerson := fun _ h => List.mem_cons_of_mem _ (List.mem_append_right _ h)
  have w1 := hC.1.2.2.2.2 (.fieldLink "PluckBroker$Plan" 9 "PluckBroker$Plan" "purses" "[I") (List.mem_of_getElem? (i := 1) rfl)
  have w2 := hC.1.2.2.2.2 (.fieldLink "PluckBroker$Plan" 37 "PluckBroker$Plan" "persons" "I") (List.mem_of_getElem? (i := 2) rfl)
  have w3 := hC.1.2.2.2.2 (.static ⟨"PluckBroker", "put", "([III)V"⟩) (List.mem_of_getElem? (i := 3) rfl)
  have w4 := hC.1.2.2.2.2 (.initialized "PluckBroker") (List.mem_of_getElem? (i := 4) rfl)
  refine g_aload_n hC 0 dX2_addPerson_0 rfl rfl ?_
  refine g_get (C := RX2) (T := TX2) (N := 11) (ci := 2) (v := .ref (r 0)) hC hcw2 0 rfl rfl 0 (by decide) w1 (fun _ h => h) rfl dX2_addPerson_1 ?_
  refine g_aload_n hC 0 dX2_addPerson_4 rfl rfl ?_
  refine g_get (C := RX2) (T := TX2) (N := 11) (ci := 2) (v := .int (nI np)) hC hcw2 0 rfl rfl 8 (by decide) w2 (fun _ h => h) rfl dX2_addPerson_5 ?_
  refine g_iload_n hC 1 dX2_addPerson_8 rfl rfl ?_
  refine g_callSNv (As := [.ref (r 0), .int (nI np), .int (nI v)]) (rest := []) hC (c_X5_put l D cI cZ (r 0) 3 (fun k_ => nI (pu k_)) np (nI v) (by first | assumption | omega) (by first | assumption | omega)) ⟨va_cnB 3 hC.1.2.2.2.2 gX2_addPerson_X5_put_n46 rfl rfl rfl (hC.2.2.1.m 6 rfl) w4 dS_X5_put ⟨Nat.le_of_ble_eq_true rfl, Nat.le_of_ble_eq_true rfl⟩, w3, trivial⟩ rfl rfl (Nat.le_of_ble_eq_true rfl) dX2_addPerson_9 ⟨Nat.le_of_ble_eq_true rfl, Nat.le_of_ble_eq_true rfl⟩ [1] [0] [0, 1] (fun (_ : Unit) => [(hp, o2 r ti np nq nd), ((r 0), .inl (cI, 3, .inl (upd (fun k_ => nI (pu k_)) np (nI v))))]) rfl rfl rfl (fun _ => rfl) (fun z9 hp9 => ?_)
  refine g_is (ws2 := [(hp, o2 r ti np nq nd), ((r 0), .inl (cI, 3, .inl (upd (fun k_ => nI (pu k_)) np (nI v))))]) (lv2 := [(0, .ref hp), (1, .int (nI v))]) (st2 := []) rfl rfl rfl ?_
  have ecell : (upd (fun k_ => nI (pu k_)) np (nI v)) = (fun k_ => nI (up1 pu np v k_)) := by exact up1_row _ _ _
  refine g_ws (ws2 := [(hp, o2 r ti np nq nd), ((r 0), .inl (cI, 3, .inl (fun k_ => nI (up1 pu np v k_))))]) (congrArg (fun zz : Nat → Int32 => ([(hp, o2 r ti np nq nd), ((r 0), .inl (cI, 3, .inl zz))] : va_W)) ecell) ?_
  refine g_aload_n hC 0 dX2_addPerson_12 rfl rfl ?_
  refine g_dup hC dX2_addPerson_13 rfl ?_
  refine g_get (C := RX2) (T := TX2) (N := 11) (ci := 2) (v := .int (nI np)) hC hcw2 0 rfl rfl 8 (by decide) w2 (fun _ h => h) rfl dX2_addPerson_14 ?_
  refine g_iconst (v := nI 1) hC dX2_addPerson_17 rfl ?_
  refine g_iadd_n (a := np) (b := 1) hC dX2_addPerson_18 ?_
  refine g_put (C := RX2) (T := TX2) (N := 11) (ci := 2) (v := .int (nI (np + 1))) hC hcw2 tyX2 tyX2_ok nmX2 0 rfl rfl 8 (by decide) w2 (fun _ h => h) rfl (tyX2_ok 8 (by decide)) rfl rfl (Nat.le_of_ble_eq_true rfl) [(hp, o2 r ti (np + 1) nq nd), ((r 0), .inl (cI, 3, .inl (fun k_ => nI (up1 pu np v k_))))] rfl dX2_addPerson_19 ?_
  subst hQ
  refine g_vret hC () hr ?_ rfl dX2_addPerson_22
  trivial

abbrev rm_X2_addQuality : Room := { frames := 1, cells := 0, slots := 0, locals := 22 }
set_option maxRecDepth 100000 in
set_option maxHeartbeats 4000000 in
theorem c_X2_addQuality (l : Launch) (D : va_G) (cI cZ : ClassId) (hp : Nat) (r : Nat → Nat) (ti : Int32) (np : Nat) (nq : Nat) (nd : Nat) (pu : Nat → Nat) (P : Nat → Nat → Nat) (o : Nat) (w : Nat) (d : Nat) (hb : nq < 5) : CtV l yX2_addQuality wsX2_addQuality rm_X2_addQuality D cI cZ [.ref hp, .int (nI o), .int (nI w), .int (nI d)] [(hp, o2 r ti np nq nd), (r 1, .inl (cI, 5, .inl (fun k_ => nI (P 0 k_)))), (r 2, .inl (cI, 5, .inl (fun k_ => nI (P 1 k_)))), (r 3, .inl (cI, 5, .inl (fun k_ => nI (P 2 k_))))] (fun (_ : Unit) => True) (fun (_ : Unit) => [(hp, o2 r ti np (nq + 1) nd), (r 1, .inl (cI, 5, .inl (fun k_ => nI (addQ P nq o w d 0 k_)))), (r 2, .inl (cI, 5, .inl (fun k_ => nI (addQ P nq o w d 1 k_)))), (r 3, .inl (cI, 5, .inl (fun k_ => nI (addQ P nq o w d 2 k_))))]) 0 0 := by
  refine g_startV (ret := none) (own := RX2) (lv0 := [(0, .ref hp), (1, .int (nI o)), (2, .int (nI w)), (3, .int (nI d))]) (by decide) rfl rfl (Nat.le_of_ble_eq_true rfl) rfl ?_
  intro p e s m args below meth cd A Q hin hr hQ hC
  have hcw2 : ∀ w ∈ wsX20, w ∈ wsX2_addQuality := fun _ h => List.mem_cons_of_mem _ (List.mem_append_right _ h)
  have w1 := hC.1.2.2.2.2 (.fieldLink "PluckBroker$Plan" 15 "PluckBroker$Plan" "owners" "[I") (List.mem_of_getElem? (i := 1) rfl)
  have w2 := hC.1.2.2.2.2 (.fieldLink "PluckBroker$Plan" 40 "PluckBroker$Plan" "qualities" "I") (List.mem_of_getElem? (i := 2) rfl)
  have w3 := hC.1.2.2.2.2 (.fieldLink "PluckBroker$Plan" 18 "PluckBroker$Plan" "worths" "[I") (List.mem_of_getElem? (i := 3) rfl)
  have w4 := hC.1.2.2.2.2 (.fieldLink "PluckBroker$Plan" 21 "PluckBroker$Plan" "kinds" "[I") (List.mem_of_getElem? (i := 4) rfl)
  have w5 := hC.1.2.2.2.2 (.static ⟨"PluckBroker", "put", "([III)V"⟩) (List.mem_of_getElem? (i := 5) rfl)
  have w6 := hC.1.2.2.2.2 (.initialized "PluckBroker") (List.mem_of_getElem? (i := 6) rfl)
  refine g_aload_n hC 0 dX2_addQuality_0 rfl rfl ?_
  refine g_get (C := RX2) (T := TX2) (N := 11) (ci := 2) (v := .ref (r 1)) hC hcw2 0 rfl rfl 1 (by decide) w1 (fun _ h => h) rfl dX2_addQuality_1 ?_
  refine g_aload_n hC 0 dX2_addQuality_4 rfl rfl ?_
  refine g_get (C := RX2) (T := TX2) (N := 11) (ci := 2) (v := .int (nI nq)) hC hcw2 0 rfl rfl 9 (by decide) w2 (fun _ h => h) rfl dX2_addQuality_5 ?_
  refine g_iload_n hC 1 dX2_addQuality_8 rfl rfl ?_
  refine g_callSNv (As := [.ref (r 1), .int (nI nq), .int (nI o)]) (rest := []) hC (c_X5_put l D cI cZ (r 1) 5 (fun k_ => nI (P 0 k_)) nq (nI o) (by first | assumption | omega) (by first | assumption | omega)) ⟨va_cnB 3 hC.1.2.2.2.2 gX2_addQuality_X5_put_n46 rfl rfl rfl (hC.2.2.1.m 6 rfl) w6 dS_X5_put ⟨Nat.le_of_ble_eq_true rfl, Nat.le_of_ble_eq_true rfl⟩, w5, trivial⟩ rfl rfl (Nat.le_of_ble_eq_true rfl) dX2_addQuality_9 ⟨Nat.le_of_ble_eq_true rfl, Nat.le_of_ble_eq_true rfl⟩ [1] [0, 2, 3] [0, 3, 1, 2] (fun (_ : Unit) => [(hp, o2 r ti np nq nd), ((r 1), .inl (cI, 5, .inl (upd (fun k_ => nI (P 0 k_)) nq (nI o)))), (r 2, .inl (cI, 5, .inl (fun k_ => nI (P 1 k_)))), (r 3, .inl (cI, 5, .inl (fun k_ => nI (P 2 k_))))]) rfl rfl rfl (fun _ => rfl) (fun z9 hp9 => ?_)
  refine g_is (ws2 := [(hp, o2 r ti np nq nd), ((r 1), .inl (cI, 5, .inl (upd (fun k_ => nI (P 0 k_)) nq (nI o)))), (r 2, .inl (cI, 5, .inl (fun k_ => nI (P 1 k_)))), (r 3, .inl (cI, 5, .inl (fun k_ => nI (P 2 k_))))]) (lv2 := [(0, .ref hp), (1, .int (nI o)), (2, .int (nI w)), (3, .int (nI d))]) (st2 := []) rfl rfl rfl ?_
  have ecell : (upd (fun k_ => nI (P 0 k_)) nq (nI o)) = (fun k_ => nI (addQ P nq o w d 0 k_)) := by rw [up2_row]; rfl
  refine g_ws (ws2 := [(hp, o2 r ti np nq nd), ((r 1), .inl (cI, 5, .inl (fun k_ => nI (addQ P nq o w d 0 k_)))), (r 2, .inl (cI, 5, .inl (fun k_ => nI (P 1 k_)))), (r 3, .inl (cI, 5, .inl (fun k_ => nI (P 2 k_))))]) (congrArg (fun zz : Nat → Int32 => ([(hp, o2 r ti np nq nd), ((r 1), .inl (cI, 5, .inl zz)), (r 2, .inl (cI, 5, .inl (fun k_ => nI (P 1 k_)))), (r 3, .inl (cI, 5, .inl (fun k_ => nI (P 2 k_))))] : va_W)) ecell) ?_
  refine g_aload_n hC 0 dX2_addQuality_12 rfl rfl ?_
  refine g_get (C := RX2) (T := TX2) (N := 11) (ci := 2) (v := .ref (r 2)) hC hcw2 0 rfl rfl 2 (by decide) w3 (fun _ h => h) rfl dX2_addQuality_13 ?_
  refine g_aload_n hC 0 dX2_addQuality_16 rfl rfl ?_
  refine g_get (C := RX2) (T := TX2) (N := 11) (ci := 2) (v := .int (nI nq)) hC hcw2 0 rfl rfl 9 (by decide) w2 (fun _ h => h) rfl dX2_addQuality_17 ?_
  refine g_iload_n hC 2 dX2_addQuality_20 rfl rfl ?_
  refine g_callSNv (As := [.ref (r 2), .int (nI nq), .int (nI w)]) (rest := []) hC (c_X5_put l D cI cZ (r 2) 5 (fun k_ => nI (P 1 k_)) nq (nI w) (by first | assumption | omega) (by first | assumption | omega)) ⟨va_cnB 3 hC.1.2.2.2.2 gX2_addQuality_X5_put_n46 rfl rfl rfl (hC.2.2.1.m 6 rfl) w6 dS_X5_put ⟨Nat.le_of_ble_eq_true rfl, Nat.le_of_ble_eq_true rfl⟩, w5, trivial⟩ rfl rfl (Nat.le_of_ble_eq_true rfl) dX2_addQuality_21 ⟨Nat.le_of_ble_eq_true rfl, Nat.le_of_ble_eq_true rfl⟩ [2] [0, 1, 3] [0, 1, 3, 2] (fun (_ : Unit) => [(hp, o2 r ti np nq nd), ((r 1), .inl (cI, 5, .inl (fun k_ => nI (addQ P nq o w d 0 k_)))), ((r 2), .inl (cI, 5, .inl (upd (fun k_ => nI (P 1 k_)) nq (nI w)))), (r 3, .inl (cI, 5, .inl (fun k_ => nI (P 2 k_))))]) rfl rfl rfl (fun _ => rfl) (fun z21 hp21 => ?_)
  refine g_is (ws2 := [(hp, o2 r ti np nq nd), ((r 1), .inl (cI, 5, .inl (fun k_ => nI (addQ P nq o w d 0 k_)))), ((r 2), .inl (cI, 5, .inl (upd (fun k_ => nI (P 1 k_)) nq (nI w)))), (r 3, .inl (cI, 5, .inl (fun k_ => nI (P 2 k_))))]) (lv2 := [(0, .ref hp), (1, .int (nI o)), (2, .int (nI w)), (3, .int (nI d))]) (st2 := []) rfl rfl rfl ?_
  have ecell : (upd (fun k_ => nI (P 1 k_)) nq (nI w)) = (fun k_ => nI (addQ P nq o w d 1 k_)) := by rw [up2_row]; rfl
  refine g_ws (ws2 := [(hp, o2 r ti np nq nd), ((r 1), .inl (cI, 5, .inl (fun k_ => nI (addQ P nq o w d 0 k_)))), ((r 2), .inl (cI, 5, .inl (fun k_ => nI (addQ P nq o w d 1 k_)))), (r 3, .inl (cI, 5, .inl (fun k_ => nI (P 2 k_))))]) (congrArg (fun zz : Nat → Int32 => ([(hp, o2 r ti np nq nd), ((r 1), .inl (cI, 5, .inl (fun k_ => nI (addQ P nq o w d 0 k_)))), ((r 2), .inl (cI, 5, .inl zz)), (r 3, .inl (cI, 5, .inl (fun k_ => nI (P 2 k_))))] : va_W)) ecell) ?_
  refine g_aload_n hC 0 dX2_addQuality_24 rfl rfl ?_
  refine g_get (C := RX2) (T := TX2) (N := 11) (ci := 2) (v := .ref (r 3)) hC hcw2 0 rfl rfl 3 (by decide) w4 (fun _ h => h) rfl dX2_addQuality_25 ?_
  refine g_aload_n hC 0 dX2_addQuality_28 rfl rfl ?_
  refine g_get (C := RX2) (T := TX2) (N := 11) (ci := 2) (v := .int (nI nq)) hC hcw2 0 rfl rfl 9 (by decide) w2 (fun _ h => h) rfl dX2_addQuality_29 ?_
  refine g_iload_n hC 3 dX2_addQuality_32 rfl rfl ?_
  refine g_callSNv (As := [.ref (r 3), .int (nI nq), .int (nI d)]) (rest := []) hC (c_X5_put l D cI cZ (r 3) 5 (fun k_ => nI (P 2 k_)) nq (nI d) (by first | assumption | omega) (by first | assumption | omega)) ⟨va_cnB 3 hC.1.2.2.2.2 gX2_addQuality_X5_put_n46 rfl rfl rfl (hC.2.2.1.m 6 rfl) w6 dS_X5_put ⟨Nat.le_of_ble_eq_true rfl, Nat.le_of_ble_eq_true rfl⟩, w5, trivial⟩ rfl rfl (Nat.le_of_ble_eq_true rfl) dX2_addQuality_33 ⟨Nat.le_of_ble_eq_true rfl, Nat.le_of_ble_eq_true rfl⟩ [3] [0, 1, 2] [0, 1, 2, 3] (fun (_ : Unit) => [(hp, o2 r ti np nq nd), ((r 1), .inl (cI, 5, .inl (fun k_ => nI (addQ P nq o w d 0 k_)))), ((r 2), .inl (cI, 5, .inl (fun k_ => nI (addQ P nq o w d 1 k_)))), ((r 3), .inl (cI, 5, .inl (upd (fun k_ => nI (P 2 k_)) nq (nI d))))]) rfl rfl rfl (fun _ => rfl) (fun z33 hp33 => ?_)
  refine g_is (ws2 := [(hp, o2 r ti np nq nd), ((r 1), .inl (cI, 5, .inl (fun k_ => nI (addQ P nq o w d 0 k_)))), ((r 2), .inl (cI, 5, .inl (fun k_ => nI (addQ P nq o w d 1 k_)))), ((r 3), .inl (cI, 5, .inl (upd (fun k_ => nI (P 2 k_)) nq (nI d))))]) (lv2 := [(0, .ref hp), (1, .int (nI o)), (2, .int (nI w)), (3, .int (nI d))]) (st2 := []) rfl rfl rfl ?_
  have ecell : (upd (fun k_ => nI (P 2 k_)) nq (nI d)) = (fun k_ => nI (addQ P nq o w d 2 k_)) := by rw [up2_row]; rfl
  refine g_ws (ws2 := [(hp, o2 r ti np nq nd), ((r 1), .inl (cI, 5, .inl (fun k_ => nI (addQ P nq o w d 0 k_)))), ((r 2), .inl (cI, 5, .inl (fun k_ => nI (addQ P nq o w d 1 k_)))), ((r 3), .inl (cI, 5, .inl (fun k_ => nI (addQ P nq o w d 2 k_))))]) (congrArg (fun zz : Nat → Int32 => ([(hp, o2 r ti np nq nd), ((r 1), .inl (cI, 5, .inl (fun k_ => nI (addQ P nq o w d 0 k_)))), ((r 2), .inl (cI, 5, .inl (fun k_ => nI (addQ P nq o w d 1 k_)))), ((r 3), .inl (cI, 5, .inl zz))] : va_W)) ecell) ?_
  refine g_aload_n hC 0 dX2_addQuality_36 rfl rfl ?_
  refine g_dup hC dX2_addQuality_37 rfl ?_
  refine g_get (C := RX2) (T := TX2) (N := 11) (ci := 2) (v := .int (nI nq)) hC hcw2 0 rfl rfl 9 (by decide) w2 (fun _ h => h) rfl dX2_addQuality_38 ?_
  refine g_iconst (v := nI 1) hC dX2_addQuality_41 rfl ?_
  refine g_iadd_n (a := nq) (b := 1) hC dX2_addQuality_42 ?_
  refine g_put (C := RX2) (T := TX2) (N := 11) (ci := 2) (v := .int (nI (nq + 1))) hC hcw2 tyX2 tyX2_ok nmX2 0 rfl rfl 9 (by decide) w2 (fun _ h => h) rfl (tyX2_ok 9 (by decide)) rfl rfl (Nat.le_of_ble_eq_true rfl) [(hp, o2 r ti np (nq + 1) nd), ((r 1), .inl (cI, 5, .inl (fun k_ => nI (addQ P nq o w d 0 k_)))), ((r 2), .inl (cI, 5, .inl (fun k_ => nI (addQ P nq o w d 1 k_)))), ((r 3), .inl (cI, 5, .inl (fun k_ => nI (addQ P nq o w d 2 k_))))] rfl dX2_addQuality_43 ?_
  subst hQ
  refine g_vret hC () hr ?_ rfl dX2_addQuality_46
  trivial

abbrev rm_X2_addDeed : Room := { frames := 1, cells := 0, slots := 0, locals := 22 }
set_option maxRecDepth 100000 in
set_option maxHeartbeats 4000000 in
theorem c_X2_addDeed (l : Launch) (D : va_G) (cI cZ : ClassId) (hp : Nat) (r : Nat → Nat) (ti : Int32) (np : Nat) (nq : Nat) (nd : Nat) (pu : Nat → Nat) (P : Nat → Nat → Nat) (o : Nat) (w : Nat) (d : Nat) (hb : nd < 5) : CtV l yX2_addDeed wsX2_addDeed rm_X2_addDeed D cI cZ [.ref hp, .int (nI o), .int (nI w), .int (nI d)] [(hp, o2 r ti np nq nd), (r 4, .inl (cI, 5, .inl (fun k_ => nI (P 3 k_)))), (r 5, .inl (cI, 5, .inl (fun k_ => nI (P 4 k_)))), (r 6, .inl (cI, 5, .inl (fun k_ => nI (P 5 k_))))] (fun (_ : Unit) => True) (fun (_ : Unit) => [(hp, o2 r ti np nq (nd + 1)), (r 4, .inl (cI, 5, .inl (fun k_ => nI (addD P nd o w d 3 k_)))), (r 5, .inl (cI, 5, .inl (fun k_ => nI (addD P nd o w d 4 k_)))), (r 6, .inl (cI, 5, .inl (fun k_ => nI (addD P nd o w d 5 k_))))]) 0 0 := by
  refine g_startV (ret := none) (own := RX2) (lv0 := [(0, .ref hp), (1, .int (nI o)), (2, .int (nI w)), (3, .int (nI d))]) (by decide) rfl rfl (Nat.le_of_ble_eq_true rfl) rfl ?_
  intro p e s m args below meth cd A Q hin hr hQ hC
  have hcw2 : ∀ w ∈ wsX20, w ∈ wsX2_addDeed := fun _ h => List.mem_cons_of_mem _ (List.mem_append_right _ h)
  have w1 := hC.1.2.2.2.2 (.fieldLink "PluckBroker$Plan" 24 "PluckBroker$Plan" "wanted" "[I") (List.mem_of_getElem? (i := 1) rfl)
  have w2 := hC.1.2.2.2.2 (.fieldLink "PluckBroker$Plan" 43 "PluckBroker$Plan" "deeds" "I") (List.mem_of_getElem? (i := 2) rfl)
  have w3 := hC.1.2.2.2.2 (.fieldLink "PluckBroker$Plan" 27 "PluckBroker$Plan" "onDays" "[I") (List.mem_of_getElem? (i := 3) rfl)
  have w4 := hC.1.2.2.2.2 (.fieldLink "PluckBroker$Plan" 30 "PluckBroker$Plan" "rewards" "[I") (List.mem_of_getElem? (i := 4) rfl)
  have w5 := hC.1.2.2.2.2 (.static ⟨"PluckBroker", "put", "([III)V"⟩) (List.mem_of_getElem? (i := 5) rfl)
  have w6 := hC.1.2.2.2.2 (.initialized "PluckBroker") (List.mem_of_getElem? (i := 6) rfl)
  refine g_aload_n hC 0 dX2_addDeed_0 rfl rfl ?_
  refine g_get (C := RX2) (T := TX2) (N := 11) (ci := 2) (v := .ref (r 4)) hC hcw2 0 rfl rfl 4 (by decide) w1 (fun _ h => h) rfl dX2_addDeed_1 ?_
  refine g_aload_n hC 0 dX2_addDeed_4 rfl rfl ?_
  refine g_get (C := RX2) (T := TX2) (N := 11) (ci := 2) (v := .int (nI nd)) hC hcw2 0 rfl rfl 10 (by decide) w2 (fun _ h => h) rfl dX2_addDeed_5 ?_
  refine g_iload_n hC 1 dX2_addDeed_8 rfl rfl ?_
  refine g_callSNv (As := [.ref (r 4), .int (nI nd), .int (nI o)]) (rest := []) hC (c_X5_put l D cI cZ (r 4) 5 (fun k_ => nI (P 3 k_)) nd (nI o) (by first | assumption | omega) (by first | assumption | omega)) ⟨va_cnB 3 hC.1.2.2.2.2 gX2_addDeed_X5_put_n46 rfl rfl rfl (hC.2.2.1.m 6 rfl) w6 dS_X5_put ⟨Nat.le_of_ble_eq_true rfl, Nat.le_of_ble_eq_true rfl⟩, w5, trivial⟩ rfl rfl (Nat.le_of_ble_eq_true rfl) dX2_addDeed_9 ⟨Nat.le_of_ble_eq_true rfl, Nat.le_of_ble_eq_true rfl⟩ [1] [0, 2, 3] [0, 3, 1, 2] (fun (_ : Unit) => [(hp, o2 r ti np nq nd), ((r 4), .inl (cI, 5, .inl (upd (fun k_ => nI (P 3 k_)) nd (nI o)))), (r 5, .inl (cI, 5, .inl (fun k_ => nI (P 4 k_)))), (r 6, .inl (cI, 5, .inl (fun k_ => nI (P 5 k_))))]) rfl rfl rfl (fun _ => rfl) (fun z9 hp9 => ?_)
  refine g_is (ws2 := [(hp, o2 r ti np nq nd), ((r 4), .inl (cI, 5, .inl (upd (fun k_ => nI (P 3 k_)) nd (nI o)))), (r 5, .inl (cI, 5, .inl (fun k_ => nI (P 4 k_)))), (r 6, .inl (cI, 5, .inl (fun k_ => nI (P 5 k_))))]) (lv2 := [(0, .ref hp), (1, .int (nI o)), (2, .int (nI w)), (3, .int (nI d))]) (st2 := []) rfl rfl rfl ?_
  have ecell : (upd (fun k_ => nI (P 3 k_)) nd (nI o)) = (fun k_ => nI (addD P nd o w d 3 k_)) := by rw [up2_row]; rfl
  refine g_ws (ws2 := [(hp, o2 r ti np nq nd), ((r 4), .inl (cI, 5, .inl (fun k_ => nI (addD P nd o w d 3 k_)))), (r 5, .inl (cI, 5, .inl (fun k_ => nI (P 4 k_)))), (r 6, .inl (cI, 5, .inl (fun k_ => nI (P 5 k_))))]) (congrArg (fun zz : Nat → Int32 => ([(hp, o2 r ti np nq nd), ((r 4), .inl (cI, 5, .inl zz)), (r 5, .inl (cI, 5, .inl (fun k_ => nI (P 4 k_)))), (r 6, .inl (cI, 5, .inl (fun k_ => nI (P 5 k_))))] : va_W)) ecell) ?_
  refine g_aload_n hC 0 dX2_addDeed_12 rfl rfl ?_
  refine g_get (C := RX2) (T := TX2) (N := 11) (ci := 2) (v := .ref (r 5)) hC hcw2 0 rfl rfl 5 (by decide) w3 (fun _ h => h) rfl dX2_addDeed_13 ?_
  refine g_aload_n hC 0 dX2_addDeed_16 rfl rfl ?_
  refine g_get (C := RX2) (T := TX2) (N := 11) (ci := 2) (v := .int (nI nd)) hC hcw2 0 rfl rfl 10 (by decide) w2 (fun _ h => h) rfl dX2_addDeed_17 ?_
  refine g_iload_n hC 2 dX2_addDeed_20 rfl rfl ?_
  refine g_callSNv (As := [.ref (r 5), .int (nI nd), .int (nI w)]) (rest := []) hC (c_X5_put l D cI cZ (r 5) 5 (fun k_ => nI (P 4 k_)) nd (nI w) (by first | assumption | omega) (by first | assumption | omega)) ⟨va_cnB 3 hC.1.2.2.2.2 gX2_addDeed_X5_put_n46 rfl rfl rfl (hC.2.2.1.m 6 rfl) w6 dS_X5_put ⟨Nat.le_of_ble_eq_true rfl, Nat.le_of_ble_eq_true rfl⟩, w5, trivial⟩ rfl rfl (Nat.le_of_ble_eq_true rfl) dX2_addDeed_21 ⟨Nat.le_of_ble_eq_true rfl, Nat.le_of_ble_eq_true rfl⟩ [2] [0, 1, 3] [0, 1, 3, 2] (fun (_ : Unit) => [(hp, o2 r ti np nq nd), ((r 4), .inl (cI, 5, .inl (fun k_ => nI (addD P nd o w d 3 k_)))), ((r 5), .inl (cI, 5, .inl (upd (fun k_ => nI (P 4 k_)) nd (nI w)))), (r 6, .inl (cI, 5, .inl (fun k_ => nI (P 5 k_))))]) rfl rfl rfl (fun _ => rfl) (fun z21 hp21 => ?_)
  refine g_is (ws2 := [(hp, o2 r ti np nq nd), ((r 4), .inl (cI, 5, .inl (fun k_ => nI (addD P nd o w d 3 k_)))), ((r 5), .inl (cI, 5, .inl (upd (fun k_ => nI (P 4 k_)) nd (nI w)))), (r 6, .inl (cI, 5, .inl (fun k_ => nI (P 5 k_))))]) (lv2 := [(0, .ref hp), (1, .int (nI o)), (2, .int (nI w)), (3, .int (nI d))]) (st2 := []) rfl rfl rfl ?_
  have ecell : (upd (fun k_ => nI (P 4 k_)) nd (nI w)) = (fun k_ => nI (addD P nd o w d 4 k_)) := by rw [up2_row]; rfl
  refine g_ws (ws2 := [(hp, o2 r ti np nq nd), ((r 4), .inl (cI, 5, .inl (fun k_ => nI (addD P nd o w d 3 k_)))), ((r 5), .inl (cI, 5, .inl (fun k_ => nI (addD P nd o w d 4 k_)))), (r 6, .inl (cI, 5, .inl (fun k_ => nI (P 5 k_))))]) (congrArg (fun zz : Nat → Int32 => ([(hp, o2 r ti np nq nd), ((r 4), .inl (cI, 5, .inl (fun k_ => nI (addD P nd o w d 3 k_)))), ((r 5), .inl (cI, 5, .inl zz)), (r 6, .inl (cI, 5, .inl (fun k_ => nI (P 5 k_))))] : va_W)) ecell) ?_
  refine g_aload_n hC 0 dX2_addDeed_24 rfl rfl ?_
  refine g_get (C := RX2) (T := TX2) (N := 11) (ci := 2) (v := .ref (r 6)) hC hcw2 0 rfl rfl 6 (by decide) w4 (fun _ h => h) rfl dX2_addDeed_25 ?_
  refine g_aload_n hC 0 dX2_addDeed_28 rfl rfl ?_
  refine g_get (C := RX2) (T := TX2) (N := 11) (ci := 2) (v := .int (nI nd)) hC hcw2 0 rfl rfl 10 (by decide) w2 (fun _ h => h) rfl dX2_addDeed_29 ?_
  refine g_iload_n hC 3 dX2_addDeed_32 rfl rfl ?_
  refine g_callSNv (As := [.ref (r 6), .int (nI nd), .int (nI d)]) (rest := []) hC (c_X5_put l D cI cZ (r 6) 5 (fun k_ => nI (P 5 k_)) nd (nI d) (by first | assumption | omega) (by first | assumption | omega)) ⟨va_cnB 3 hC.1.2.2.2.2 gX2_addDeed_X5_put_n46 rfl rfl rfl (hC.2.2.1.m 6 rfl) w6 dS_X5_put ⟨Nat.le_of_ble_eq_true rfl, Nat.le_of_ble_eq_true rfl⟩, w5, trivial⟩ rfl rfl (Nat.le_of_ble_eq_true rfl) dX2_addDeed_33 ⟨Nat.le_of_ble_eq_true rfl, Nat.le_of_ble_eq_true rfl⟩ [3] [0, 1, 2] [0, 1, 2, 3] (fun (_ : Unit) => [(hp, o2 r ti np nq nd), ((r 4), .inl (cI, 5, .inl (fun k_ => nI (addD P nd o w d 3 k_)))), ((r 5), .inl (cI, 5, .inl (fun k_ => nI (addD P nd o w d 4 k_)))), ((r 6), .inl (cI, 5, .inl (upd (fun k_ => nI (P 5 k_)) nd (nI d))))]) rfl rfl rfl (fun _ => rfl) (fun z33 hp33 => ?_)
  refine g_is (ws2 := [(hp, o2 r ti np nq nd), ((r 4), .inl (cI, 5, .inl (fun k_ => nI (addD P nd o w d 3 k_)))), ((r 5), .inl (cI, 5, .inl (fun k_ => nI (addD P nd o w d 4 k_)))), ((r 6), .inl (cI, 5, .inl (upd (fun k_ => nI (P 5 k_)) nd (nI d))))]) (lv2 := [(0, .ref hp), (1, .int (nI o)), (2, .int (nI w)), (3, .int (nI d))]) (st2 := []) rfl rfl rfl ?_
  have ecell : (upd (fun k_ => nI (P 5 k_)) nd (nI d)) = (fun k_ => nI (addD P nd o w d 5 k_)) := by rw [up2_row]; rfl
  refine g_ws (ws2 := [(hp, o2 r ti np nq nd), ((r 4), .inl (cI, 5, .inl (fun k_ => nI (addD P nd o w d 3 k_)))), ((r 5), .inl (cI, 5, .inl (fun k_ => nI (addD P nd o w d 4 k_)))), ((r 6), .inl (cI, 5, .inl (fun k_ => nI (addD P nd o w d 5 k_))))]) (congrArg (fun zz : Nat → Int32 => ([(hp, o2 r ti np nq nd), ((r 4), .inl (cI, 5, .inl (fun k_ => nI (addD P nd o w d 3 k_)))), ((r 5), .inl (cI, 5, .inl (fun k_ => nI (addD P nd o w d 4 k_)))), ((r 6), .inl (cI, 5, .inl zz))] : va_W)) ecell) ?_
  refine g_aload_n hC 0 dX2_addDeed_36 rfl rfl ?_
  refine g_dup hC dX2_addDeed_37 rfl ?_
  refine g_get (C := RX2) (T := TX2) (N := 11) (ci := 2) (v := .int (nI nd)) hC hcw2 0 rfl rfl 10 (by decide) w2 (fun _ h => h) rfl dX2_addDeed_38 ?_
  refine g_iconst (v := nI 1) hC dX2_addDeed_41 rfl ?_
  refine g_iadd_n (a := nd) (b := 1) hC dX2_addDeed_42 ?_
  refine g_put (C := RX2) (T := TX2) (N := 11) (ci := 2) (v := .int (nI (nd + 1))) hC hcw2 tyX2 tyX2_ok nmX2 0 rfl rfl 10 (by decide) w2 (fun _ h => h) rfl (tyX2_ok 10 (by decide)) rfl rfl (Nat.le_of_ble_eq_true rfl) [(hp, o2 r ti np nq (nd + 1)), ((r 4), .inl (cI, 5, .inl (fun k_ => nI (addD P nd o w d 3 k_)))), ((r 5), .inl (cI, 5, .inl (fun k_ => nI (addD P nd o w d 4 k_)))), ((r 6), .inl (cI, 5, .inl (fun k_ => nI (addD P nd o w d 5 k_))))] rfl dX2_addDeed_43 ?_
  subst hQ
  refine g_vret hC () hr ?_ rfl dX2_addDeed_46
  trivial

abbrev rm_X4_readPerson : Room := { frames := 3, cells := 0, slots := 0, locals := 64 }
set_option maxRecDepth 100000 in
set_option maxHeartbeats 4000000 in
theorem c_X4_readPerson (l : Launch) (D : va_G) (cI cZ : ClassId) (ht : Nat) (hb : Nat) (tx : Nat → Nat) (tl : Nat) (cur : Nat) (hp : Nat) (r : Nat → Nat) (ti : Int32) (np : Nat) (nq : Nat) (nd : Nat) (pu : Nat → Nat) (P : Nat → Nat → Nat) (hl : tl ≤ 48) (htx : ∀ k, tx k < 256) (hcl : cur ≤ tl) (hnp : np ≤ 3) (hnq : nq ≤ 5) (hnd : nd ≤ 5) (hq : np < 3) : CtI l yX4_readPerson wsX4_readPerson rm_X4_readPerson D cI cZ [.ref ht, .ref hp] [(ht, .inr (4, [.ref hb, .int (nI tl), .int (nI cur)])), (hb, .inl (cI, 48, .inl (fun k_ => nI (tx k_)))), (hp, o2 r ti np nq nd), (r 0, .inl (cI, 3, .inl (fun k_ => nI (pu k_)))), (r 1, .inl (cI, 5, .inl (fun k_ => nI (P 0 k_)))), (r 2, .inl (cI, 5, .inl (fun k_ => nI (P 1 k_)))), (r 3, .inl (cI, 5, .inl (fun k_ => nI (P 2 k_)))), (r 4, .inl (cI, 5, .inl (fun k_ => nI (P 3 k_)))), (r 5, .inl (cI, 5, .inl (fun k_ => nI (P 4 k_)))), (r 6, .inl (cI, 5, .inl (fun k_ => nI (P 5 k_))))] (fun (r : Int32) (z : Nat × Nat × Nat × Nat × (Nat → Nat) × (Nat → Nat → Nat)) => match z with | (cur2, np2, nq2, nd2, pu2, P2) => r = bI ((rdP tx tl (cur, np, nq, nd, pu, P)).1 = true) ∧ (cur2, np2, nq2, nd2, pu2, P2) = (rdP tx tl (cur, np, nq, nd, pu, P)).2) (fun (z : Nat × Nat × Nat × Nat × (Nat → Nat) × (Nat → Nat → Nat)) => match z with | (cur2, np2, nq2, nd2, pu2, P2) => [(ht, .inr (4, [.ref hb, .int (nI tl), .int (nI cur2)])), (hb, .inl (cI, 48, .inl (fun k_ => nI (tx k_)))), (hp, o2 r ti np2 nq2 nd2), (r 0, .inl (cI, 3, .inl (fun k_ => nI (pu2 k_)))), (r 1, .inl (cI, 5, .inl (fun k_ => nI (P2 0 k_)))), (r 2, .inl (cI, 5, .inl (fun k_ => nI (P2 1 k_)))), (r 3, .inl (cI, 5, .inl (fun k_ => nI (P2 2 k_)))), (r 4, .inl (cI, 5, .inl (fun k_ => nI (P2 3 k_)))), (r 5, .inl (cI, 5, .inl (fun k_ => nI (P2 4 k_)))), (r 6, .inl (cI, 5, .inl (fun k_ => nI (P2 5 k_))))]) 0 0 := by
  refine g_startI (ret := (some .boolean)) (own := RX4) (lv0 := [(0, .ref ht), (1, .ref hp)]) (by decide) rfl rfl (Nat.le_of_ble_eq_true rfl) rfl ?_
  intro p e s m args below meth cd A Q hin hr hQ hC
  refine g_aload_n hC 0 dX4_readPerson_0 rfl rfl ?_
  refine g_iconst (v := nI 0) hC dX4_readPerson_1 rfl ?_
  refine g_bipush (v := nI 9) hC dX4_readPerson_2 (by decide +kernel) ?_
  refine g_callVi (As := [.int (nI 0), .int (nI 9)]) (rest := []) hC (c_X4_figure l D cI cZ ht hb tx tl cur 0 9 (by first | assumption | omega) (by first | assumption | omega) (by first | assumption | omega) (by first | assumption | omega) (by first | assumption | omega)) (cwV 2 hC.1.2.2.2.2 gX4_readPerson_X4_figure rfl rfl rfl dV_X4_figure ⟨Nat.le_of_ble_eq_true rfl, Nat.le_of_ble_eq_true rfl⟩) rfl rfl rfl rfl (Nat.le_of_ble_eq_true rfl) dX4_readPerson_4 ⟨Nat.le_of_ble_eq_true rfl, Nat.le_of_ble_eq_true rfl⟩ [0, 1] [2, 3, 4, 5, 6, 7, 8, 9] [8, 9, 0, 1, 2, 3, 4, 5, 6, 7] (fun (_ : Unit) => [(ht, .inr (4, [.ref hb, .int (nI tl), .int (nI (figC tx tl cur 0 9))])), (hb, .inl (cI, 48, .inl (fun k_ => nI (tx k_)))), (hp, o2 r ti np nq nd), (r 0, .inl (cI, 3, .inl (fun k_ => nI (pu k_)))), (r 1, .inl (cI, 5, .inl (fun k_ => nI (P 0 k_)))), (r 2, .inl (cI, 5, .inl (fun k_ => nI (P 1 k_)))), (r 3, .inl (cI, 5, .inl (fun k_ => nI (P 2 k_)))), (r 4, .inl (cI, 5, .inl (fun k_ => nI (P 3 k_)))), (r 5, .inl (cI, 5, .inl (fun k_ => nI (P 4 k_)))), (r 6, .inl (cI, 5, .inl (fun k_ => nI (P 5 k_))))]) rfl rfl rfl (fun _ => rfl) (fun r4 z4 hp4 => ?_)
  try dsimp only at hp4
  subst hp4
  refine g_is (ws2 := [(ht, .inr (4, [.ref hb, .int (nI tl), .int (nI (figC tx tl cur 0 9))])), (hb, .inl (cI, 48, .inl (fun k_ => nI (tx k_)))), (hp, o2 r ti np nq nd), (r 0, .inl (cI, 3, .inl (fun k_ => nI (pu k_)))), (r 1, .inl (cI, 5, .inl (fun k_ => nI (P 0 k_)))), (r 2, .inl (cI, 5, .inl (fun k_ => nI (P 1 k_)))), (r 3, .inl (cI, 5, .inl (fun k_ => nI (P 2 k_)))), (r 4, .inl (cI, 5, .inl (fun k_ => nI (P 3 k_)))), (r 5, .inl (cI, 5, .inl (fun k_ => nI (P 4 k_)))), (r 6, .inl (cI, 5, .inl (fun k_ => nI (P 5 k_))))]) (lv2 := [(0, .ref ht), (1, .ref hp)]) (st2 := [.int (figV tx tl cur 0 9)]) rfl rfl rfl ?_
  refine g_istore_n (lv' := [(0, .ref ht), (1, .ref hp), (2, .int (figV tx tl cur 0 9))]) hC [1, 2, 0] dX4_readPerson_7 rfl (by decide) rfl ?_
  refine g_iload_n hC 2 dX4_readPerson_8 rfl rfl ?_
  refine g_if_ge hC 14 dX4_readPerson_9 (by decide) (fun h9t => ?_) (fun h9f => ?_)
  · have hf := figV_t h9t
    have efld : (figC tx tl cur 0 9 : Nat) = cur + 1 := by rw [figC_e hf]
    refine g_ws (ws2 := [(ht, .inr (4, [.ref hb, .int (nI tl), .int (nI (cur + 1))])), (hb, .inl (cI, 48, .inl (fun k_ => nI (tx k_)))), (hp, o2 r ti np nq nd), (r 0, .inl (cI, 3, .inl (fun k_ => nI (pu k_)))), (r 1, .inl (cI, 5, .inl (fun k_ => nI (P 0 k_)))), (r 2, .inl (cI, 5, .inl (fun k_ => nI (P 1 k_)))), (r 3, .inl (cI, 5, .inl (fun k_ => nI (P 2 k_)))), (r 4, .inl (cI, 5, .inl (fun k_ => nI (P 3 k_)))), (r 5, .inl (cI, 5, .inl (fun k_ => nI (P 4 k_)))), (r 6, .inl (cI, 5, .inl (fun k_ => nI (P 5 k_))))]) (congrArg (fun zz : Nat => ([(ht, .inr (4, [.ref hb, .int (nI tl), .int (nI zz)])), (hb, .inl (cI, 48, .inl (fun k_ => nI (tx k_)))), (hp, o2 r ti np nq nd), (r 0, .inl (cI, 3, .inl (fun k_ => nI (pu k_)))), (r 1, .inl (cI, 5, .inl (fun k_ => nI (P 0 k_)))), (r 2, .inl (cI, 5, .inl (fun k_ => nI (P 1 k_)))), (r 3, .inl (cI, 5, .inl (fun k_ => nI (P 2 k_)))), (r 4, .inl (cI, 5, .inl (fun k_ => nI (P 3 k_)))), (r 5, .inl (cI, 5, .inl (fun k_ => nI (P 4 k_)))), (r 6, .inl (cI, 5, .inl (fun k_ => nI (P 5 k_))))] : va_W)) efld) ?_
    refine g_aload_n hC 1 dX4_readPerson_14 rfl rfl ?_
    refine g_iload_n hC 2 dX4_readPerson_15 rfl rfl ?_
    refine g_top (y := nI (tx cur - 48)) (figV_e hf) ?_
    refine g_callVv (As := [.int (nI (tx cur - 48))]) (rest := []) hC (c_X2_addPerson l D cI cZ hp r ti np nq nd pu P (tx cur - 48) (by first | assumption | omega)) (cwV 1 hC.1.2.2.2.2 gX4_readPerson_X2_addPerson rfl rfl rfl dV_X2_addPerson ⟨Nat.le_of_ble_eq_true rfl, Nat.le_of_ble_eq_true rfl⟩) rfl rfl rfl rfl (Nat.le_of_ble_eq_true rfl) dX4_readPerson_16 ⟨Nat.le_of_ble_eq_true rfl, Nat.le_of_ble_eq_true rfl⟩ [2, 3] [0, 1, 4, 5, 6, 7, 8, 9] [0, 1, 8, 9, 2, 3, 4, 5, 6, 7] (fun (_ : Unit) => [(ht, .inr (4, [.ref hb, .int (nI tl), .int (nI (cur + 1))])), (hb, .inl (cI, 48, .inl (fun k_ => nI (tx k_)))), (hp, o2 r ti (np + 1) nq nd), (r 0, .inl (cI, 3, .inl (fun k_ => nI ((up1 pu np (tx cur - 48)) k_)))), (r 1, .inl (cI, 5, .inl (fun k_ => nI (P 0 k_)))), (r 2, .inl (cI, 5, .inl (fun k_ => nI (P 1 k_)))), (r 3, .inl (cI, 5, .inl (fun k_ => nI (P 2 k_)))), (r 4, .inl (cI, 5, .inl (fun k_ => nI (P 3 k_)))), (r 5, .inl (cI, 5, .inl (fun k_ => nI (P 4 k_)))), (r 6, .inl (cI, 5, .inl (fun k_ => nI (P 5 k_))))]) rfl rfl rfl (fun _ => rfl) (fun z16 hp16 => ?_)
    refine g_is (ws2 := [(ht, .inr (4, [.ref hb, .int (nI tl), .int (nI (cur + 1))])), (hb, .inl (cI, 48, .inl (fun k_ => nI (tx k_)))), (hp, o2 r ti (np + 1) nq nd), (r 0, .inl (cI, 3, .inl (fun k_ => nI ((up1 pu np (tx cur - 48)) k_)))), (r 1, .inl (cI, 5, .inl (fun k_ => nI (P 0 k_)))), (r 2, .inl (cI, 5, .inl (fun k_ => nI (P 1 k_)))), (r 3, .inl (cI, 5, .inl (fun k_ => nI (P 2 k_)))), (r 4, .inl (cI, 5, .inl (fun k_ => nI (P 3 k_)))), (r 5, .inl (cI, 5, .inl (fun k_ => nI (P 4 k_)))), (r 6, .inl (cI, 5, .inl (fun k_ => nI (P 5 k_))))]) (lv2 := [(0, .ref ht), (1, .ref hp), (2, .int (figV tx tl cur 0 9))]) (st2 := []) rfl rfl rfl ?_
    refine g_iconst (v := nI 1) hC dX4_readPerson_19 rfl ?_
    subst hQ
    refine g_zret (v := nI 1) hC (cur + 1, np + 1, nq, nd, (up1 pu np (tx cur - 48)), P) hr (by decide +kernel) ?_ rfl dX4_readPerson_20
    have e : rdP tx tl (cur, np, nq, nd, pu, P) = (true, cur + 1, np + 1, nq, nd, up1 pu np (tx cur - 48), P) := if_pos hf
    rw [e]; exact ⟨(bI_t rfl).symm, rfl⟩
  have hf := figV_f htx h9f
  have efld : (figC tx tl cur 0 9 : Nat) = cur := by rw [figC_n hf]
  refine g_ws (ws2 := [(ht, .inr (4, [.ref hb, .int (nI tl), .int (nI cur)])), (hb, .inl (cI, 48, .inl (fun k_ => nI (tx k_)))), (hp, o2 r ti np nq nd), (r 0, .inl (cI, 3, .inl (fun k_ => nI (pu k_)))), (r 1, .inl (cI, 5, .inl (fun k_ => nI (P 0 k_)))), (r 2, .inl (cI, 5, .inl (fun k_ => nI (P 1 k_)))), (r 3, .inl (cI, 5, .inl (fun k_ => nI (P 2 k_)))), (r 4, .inl (cI, 5, .inl (fun k_ => nI (P 3 k_)))), (r 5, .inl (cI, 5, .inl (fun k_ => nI (P 4 k_)))), (r 6, .inl (cI, 5, .inl (fun k_ => nI (P 5 k_))))]) (congrArg (fun zz : Nat => ([(ht, .inr (4, [.ref hb, .int (nI tl), .int (nI zz)])), (hb, .inl (cI, 48, .inl (fun k_ => nI (tx k_)))), (hp, o2 r ti np nq nd), (r 0, .inl (cI, 3, .inl (fun k_ => nI (pu k_)))), (r 1, .inl (cI, 5, .inl (fun k_ => nI (P 0 k_)))), (r 2, .inl (cI, 5, .inl (fun k_ => nI (P 1 k_)))), (r 3, .inl (cI, 5, .inl (fun k_ => nI (P 2 k_)))), (r 4, .inl (cI, 5, .inl (fun k_ => nI (P 3 k_)))), (r 5, .inl (cI, 5, .inl (fun k_ => nI (P 4 k_)))), (r 6, .inl (cI, 5, .inl (fun k_ => nI (P 5 k_))))] : va_W)) efld) ?_
  refine g_iconst (v := nI 0) hC dX4_readPerson_12 rfl ?_
  subst hQ
  refine g_zret (v := nI 0) hC (cur, np, nq, nd, pu, P) hr (by decide +kernel) ?_ rfl dX4_readPerson_13
  have e : rdP tx tl (cur, np, nq, nd, pu, P) = (false, cur, np, nq, nd, pu, P) := if_neg hf
  rw [e]; exact ⟨(bI_f (fun q => by cases q)).symm, rfl⟩

abbrev rm_X4_readQuality : Room := { frames := 3, cells := 0, slots := 0, locals := 64 }
set_option maxRecDepth 100000 in
set_option maxHeartbeats 4000000 in
theorem c_X4_readQuality (l : Launch) (D : va_G) (cI cZ : ClassId) (ht : Nat) (hb : Nat) (tx : Nat → Nat) (tl : Nat) (cur : Nat) (hp : Nat) (r : Nat → Nat) (ti : Int32) (np : Nat) (nq : Nat) (nd : Nat) (pu : Nat → Nat) (P : Nat → Nat → Nat) (hl : tl ≤ 48) (htx : ∀ k, tx k < 256) (hcl : cur ≤ tl) (hnp : np ≤ 3) (hnq : nq ≤ 5) (hnd : nd ≤ 5) (hq : nq < 5) (hz : 0 < np) : CtI l yX4_readQuality wsX4_readQuality rm_X4_readQuality D cI cZ [.ref ht, .ref hp] [(ht, .inr (4, [.ref hb, .int (nI tl), .int (nI cur)])), (hb, .inl (cI, 48, .inl (fun k_ => nI (tx k_)))), (hp, o2 r ti np nq nd), (r 0, .inl (cI, 3, .inl (fun k_ => nI (pu k_)))), (r 1, .inl (cI, 5, .inl (fun k_ => nI (P 0 k_)))), (r 2, .inl (cI, 5, .inl (fun k_ => nI (P 1 k_)))), (r 3, .inl (cI, 5, .inl (fun k_ => nI (P 2 k_)))), (r 4, .inl (cI, 5, .inl (fun k_ => nI (P 3 k_)))), (r 5, .inl (cI, 5, .inl (fun k_ => nI (P 4 k_)))), (r 6, .inl (cI, 5, .inl (fun k_ => nI (P 5 k_))))] (fun (r : Int32) (z : Nat × Nat × Nat × Nat × (Nat → Nat) × (Nat → Nat → Nat)) => match z with | (cur2, np2, nq2, nd2, pu2, P2) => r = bI ((rdQ tx tl (cur, np, nq, nd, pu, P)).1 = true) ∧ (cur2, np2, nq2, nd2, pu2, P2) = (rdQ tx tl (cur, np, nq, nd, pu, P)).2) (fun (z : Nat × Nat × Nat × Nat × (Nat → Nat) × (Nat → Nat → Nat)) => match z with | (cur2, np2, nq2, nd2, pu2, P2) => [(ht, .inr (4, [.ref hb, .int (nI tl), .int (nI cur2)])), (hb, .inl (cI, 48, .inl (fun k_ => nI (tx k_)))), (hp, o2 r ti np2 nq2 nd2), (r 0, .inl (cI, 3, .inl (fun k_ => nI (pu2 k_)))), (r 1, .inl (cI, 5, .inl (fun k_ => nI (P2 0 k_)))), (r 2, .inl (cI, 5, .inl (fun k_ => nI (P2 1 k_)))), (r 3, .inl (cI, 5, .inl (fun k_ => nI (P2 2 k_)))), (r 4, .inl (cI, 5, .inl (fun k_ => nI (P2 3 k_)))), (r 5, .inl (cI, 5, .inl (fun k_ => nI (P2 4 k_)))), (r 6, .inl (cI, 5, .inl (fun k_ => nI (P2 5 k_))))]) 0 0 := by
  refine g_startI (ret := (some .boolean)) (own := RX4) (lv0 := [(0, .ref ht), (1, .ref hp)]) (by decide) rfl rfl (Nat.le_of_ble_eq_true rfl) rfl ?_
  intro p e s m args below meth cd A Q hin hr hQ hC
  have hcw2 : ∀ w ∈ wsX20, w ∈ wsX4_readQuality := fun _ h => List.mem_cons_of_mem _ (List.mem_append_left _ (List.mem_append_right _ h))
  refine g_aload_n hC 0 dX4_readQuality_0 rfl rfl ?_
  refine g_iconst (v := nI 0) hC dX4_readQuality_1 rfl ?_
  refine g_aload_n hC 1 dX4_readQuality_2 rfl rfl ?_
  refine g_getN (C := RX2) (T := TX2) (N := 11) (ci := 2) (v := .int (nI np)) hC hcw2 2 rfl rfl 8 (by decide) (hC.2.2.1.f 4 rfl) (fun _ h => h) rfl dX4_readQuality_3 ?_
  refine g_iconst (v := nI 1) hC dX4_readQuality_6 rfl ?_
  refine g_isub_n (a := np) (b := 1) hC (by omega) dX4_readQuality_7 ?_
  refine g_callVi (As := [.int (nI 0), .int (nI (np - 1))]) (rest := []) hC (c_X4_figure l D cI cZ ht hb tx tl cur 0 (np - 1) (by first | assumption | omega) (by first | assumption | omega) (by first | assumption | omega) (by first | assumption | omega) (by first | assumption | omega)) (cwV 2 hC.1.2.2.2.2 gX4_readQuality_X4_figure rfl rfl rfl dV_X4_figure ⟨Nat.le_of_ble_eq_true rfl, Nat.le_of_ble_eq_true rfl⟩) rfl rfl rfl rfl (Nat.le_of_ble_eq_true rfl) dX4_readQuality_8 ⟨Nat.le_of_ble_eq_true rfl, Nat.le_of_ble_eq_true rfl⟩ [0, 1] [2, 3, 4, 5, 6, 7, 8, 9] [8, 9, 0, 1, 2, 3, 4, 5, 6, 7] (fun (_ : Unit) => [(ht, .inr (4, [.ref hb, .int (nI tl), .int (nI (figC tx tl cur 0 (np - 1)))])), (hb, .inl (cI, 48, .inl (fun k_ => nI (tx k_)))), (hp, o2 r ti np nq nd), (r 0, .inl (cI, 3, .inl (fun k_ => nI (pu k_)))), (r 1, .inl (cI, 5, .inl (fun k_ => nI (P 0 k_)))), (r 2, .inl (cI, 5, .inl (fun k_ => nI (P 1 k_)))), (r 3, .inl (cI, 5, .inl (fun k_ => nI (P 2 k_)))), (r 4, .inl (cI, 5, .inl (fun k_ => nI (P 3 k_)))), (r 5, .inl (cI, 5, .inl (fun k_ => nI (P 4 k_)))), (r 6, .inl (cI, 5, .inl (fun k_ => nI (P 5 k_))))]) rfl rfl rfl (fun _ => rfl) (fun r8 z8 hp8 => ?_)
  try dsimp only at hp8
  subst hp8
  refine g_is (ws2 := [(ht, .inr (4, [.ref hb, .int (nI tl), .int (nI (figC tx tl cur 0 (np - 1)))])), (hb, .inl (cI, 48, .inl (fun k_ => nI (tx k_)))), (hp, o2 r ti np nq nd), (r 0, .inl (cI, 3, .inl (fun k_ => nI (pu k_)))), (r 1, .inl (cI, 5, .inl (fun k_ => nI (P 0 k_)))), (r 2, .inl (cI, 5, .inl (fun k_ => nI (P 1 k_)))), (r 3, .inl (cI, 5, .inl (fun k_ => nI (P 2 k_)))), (r 4, .inl (cI, 5, .inl (fun k_ => nI (P 3 k_)))), (r 5, .inl (cI, 5, .inl (fun k_ => nI (P 4 k_)))), (r 6, .inl (cI, 5, .inl (fun k_ => nI (P 5 k_))))]) (lv2 := [(0, .ref ht), (1, .ref hp)]) (st2 := [.int (figV tx tl cur 0 (np - 1))]) rfl rfl rfl ?_
  refine g_istore_n (lv' := [(0, .ref ht), (1, .ref hp), (2, .int (figV tx tl cur 0 (np - 1)))]) hC [1, 2, 0] dX4_readQuality_11 rfl (by decide) rfl ?_
  refine g_iload_n hC 2 dX4_readQuality_12 rfl rfl ?_
  refine g_if_ge hC 20 dX4_readQuality_13 (by decide) (fun h13t => ?_) (fun h13f => ?_)
  · have hf1 := figV_t h13t
    have efld : (figC tx tl cur 0 (np - 1) : Nat) = cur + 1 := by rw [figC_e hf1]
    refine g_ws (ws2 := [(ht, .inr (4, [.ref hb, .int (nI tl), .int (nI (cur + 1))])), (hb, .inl (cI, 48, .inl (fun k_ => nI (tx k_)))), (hp, o2 r ti np nq nd), (r 0, .inl (cI, 3, .inl (fun k_ => nI (pu k_)))), (r 1, .inl (cI, 5, .inl (fun k_ => nI (P 0 k_)))), (r 2, .inl (cI, 5, .inl (fun k_ => nI (P 1 k_)))), (r 3, .inl (cI, 5, .inl (fun k_ => nI (P 2 k_)))), (r 4, .inl (cI, 5, .inl (fun k_ => nI (P 3 k_)))), (r 5, .inl (cI, 5, .inl (fun k_ => nI (P 4 k_)))), (r 6, .inl (cI, 5, .inl (fun k_ => nI (P 5 k_))))]) (congrArg (fun zz : Nat => ([(ht, .inr (4, [.ref hb, .int (nI tl), .int (nI zz)])), (hb, .inl (cI, 48, .inl (fun k_ => nI (tx k_)))), (hp, o2 r ti np nq nd), (r 0, .inl (cI, 3, .inl (fun k_ => nI (pu k_)))), (r 1, .inl (cI, 5, .inl (fun k_ => nI (P 0 k_)))), (r 2, .inl (cI, 5, .inl (fun k_ => nI (P 1 k_)))), (r 3, .inl (cI, 5, .inl (fun k_ => nI (P 2 k_)))), (r 4, .inl (cI, 5, .inl (fun k_ => nI (P 3 k_)))), (r 5, .inl (cI, 5, .inl (fun k_ => nI (P 4 k_)))), (r 6, .inl (cI, 5, .inl (fun k_ => nI (P 5 k_))))] : va_W)) efld) ?_
    refine g_aload_n hC 0 dX4_readQuality_20 rfl rfl ?_
    refine g_iconst (v := nI 1) hC dX4_readQuality_21 rfl ?_
    refine g_bipush (v := nI 9) hC dX4_readQuality_22 (by decide +kernel) ?_
    refine g_callVi (As := [.int (nI 1), .int (nI 9)]) (rest := []) hC (c_X4_figure l D cI cZ ht hb tx tl (cur + 1) 1 9 (by first | assumption | omega) (by first | assumption | omega) (by first | assumption | omega) (by first | assumption | omega) (by first | assumption | omega)) (cwV 2 hC.1.2.2.2.2 gX4_readQuality_X4_figure rfl rfl rfl dV_X4_figure ⟨Nat.le_of_ble_eq_true rfl, Nat.le_of_ble_eq_true rfl⟩) rfl rfl rfl rfl (Nat.le_of_ble_eq_true rfl) dX4_readQuality_24 ⟨Nat.le_of_ble_eq_true rfl, Nat.le_of_ble_eq_true rfl⟩ [0, 1] [2, 3, 4, 5, 6, 7, 8, 9] [8, 9, 0, 1, 2, 3, 4, 5, 6, 7] (fun (_ : Unit) => [(ht, .inr (4, [.ref hb, .int (nI tl), .int (nI (figC tx tl (cur + 1) 1 9))])), (hb, .inl (cI, 48, .inl (fun k_ => nI (tx k_)))), (hp, o2 r ti np nq nd), (r 0, .inl (cI, 3, .inl (fun k_ => nI (pu k_)))), (r 1, .inl (cI, 5, .inl (fun k_ => nI (P 0 k_)))), (r 2, .inl (cI, 5, .inl (fun k_ => nI (P 1 k_)))), (r 3, .inl (cI, 5, .inl (fun k_ => nI (P 2 k_)))), (r 4, .inl (cI, 5, .inl (fun k_ => nI (P 3 k_)))), (r 5, .inl (cI, 5, .inl (fun k_ => nI (P 4 k_)))), (r 6, .inl (cI, 5, .inl (fun k_ => nI (P 5 k_))))]) rfl rfl rfl (fun _ => rfl) (fun r24 z24 hp24 => ?_)
    try dsimp only at hp24
    subst hp24
    refine g_is (ws2 := [(ht, .inr (4, [.ref hb, .int (nI tl), .int (nI (figC tx tl (cur + 1) 1 9))])), (hb, .inl (cI, 48, .inl (fun k_ => nI (tx k_)))), (hp, o2 r ti np nq nd), (r 0, .inl (cI, 3, .inl (fun k_ => nI (pu k_)))), (r 1, .inl (cI, 5, .inl (fun k_ => nI (P 0 k_)))), (r 2, .inl (cI, 5, .inl (fun k_ => nI (P 1 k_)))), (r 3, .inl (cI, 5, .inl (fun k_ => nI (P 2 k_)))), (r 4, .inl (cI, 5, .inl (fun k_ => nI (P 3 k_)))), (r 5, .inl (cI, 5, .inl (fun k_ => nI (P 4 k_)))), (r 6, .inl (cI, 5, .inl (fun k_ => nI (P 5 k_))))]) (lv2 := [(0, .ref ht), (1, .ref hp), (2, .int (figV tx tl cur 0 (np - 1)))]) (st2 := [.int (figV tx tl (cur + 1) 1 9)]) rfl rfl rfl ?_
    refine g_istore_n (lv' := [(0, .ref ht), (1, .ref hp), (2, .int (figV tx tl cur 0 (np - 1))), (3, .int (figV tx tl (cur + 1) 1 9))]) hC [1, 2, 3, 0] dX4_readQuality_27 rfl (by decide) rfl ?_
    refine g_iload_n hC 3 dX4_readQuality_28 rfl rfl ?_
    refine g_if_ge hC 36 dX4_readQuality_29 (by decide) (fun h29t => ?_) (fun h29f => ?_)
    · have hf2 := figV_t h29t
      have efld : (figC tx tl (cur + 1) 1 9 : Nat) = cur + 2 := by rw [figC_e hf2]
      refine g_ws (ws2 := [(ht, .inr (4, [.ref hb, .int (nI tl), .int (nI (cur + 2))])), (hb, .inl (cI, 48, .inl (fun k_ => nI (tx k_)))), (hp, o2 r ti np nq nd), (r 0, .inl (cI, 3, .inl (fun k_ => nI (pu k_)))), (r 1, .inl (cI, 5, .inl (fun k_ => nI (P 0 k_)))), (r 2, .inl (cI, 5, .inl (fun k_ => nI (P 1 k_)))), (r 3, .inl (cI, 5, .inl (fun k_ => nI (P 2 k_)))), (r 4, .inl (cI, 5, .inl (fun k_ => nI (P 3 k_)))), (r 5, .inl (cI, 5, .inl (fun k_ => nI (P 4 k_)))), (r 6, .inl (cI, 5, .inl (fun k_ => nI (P 5 k_))))]) (congrArg (fun zz : Nat => ([(ht, .inr (4, [.ref hb, .int (nI tl), .int (nI zz)])), (hb, .inl (cI, 48, .inl (fun k_ => nI (tx k_)))), (hp, o2 r ti np nq nd), (r 0, .inl (cI, 3, .inl (fun k_ => nI (pu k_)))), (r 1, .inl (cI, 5, .inl (fun k_ => nI (P 0 k_)))), (r 2, .inl (cI, 5, .inl (fun k_ => nI (P 1 k_)))), (r 3, .inl (cI, 5, .inl (fun k_ => nI (P 2 k_)))), (r 4, .inl (cI, 5, .inl (fun k_ => nI (P 3 k_)))), (r 5, .inl (cI, 5, .inl (fun k_ => nI (P 4 k_)))), (r 6, .inl (cI, 5, .inl (fun k_ => nI (P 5 k_))))] : va_W)) efld) ?_
      refine g_aload_n hC 0 dX4_readQuality_36 rfl rfl ?_
      refine g_iconst (v := nI 0) hC dX4_readQuality_37 rfl ?_
      refine g_iconst (v := nI 3) hC dX4_readQuality_38 rfl ?_
      refine g_callVi (As := [.int (nI 0), .int (nI 3)]) (rest := []) hC (c_X4_figure l D cI cZ ht hb tx tl (cur + 2) 0 3 (by first | assumption | omega) (by first | assumption | omega) (by first | assumption | omega) (by first | assumption | omega) (by first | assumption | omega)) (cwV 2 hC.1.2.2.2.2 gX4_readQuality_X4_figure rfl rfl rfl dV_X4_figure ⟨Nat.le_of_ble_eq_true rfl, Nat.le_of_ble_eq_true rfl⟩) rfl rfl rfl rfl (Nat.le_of_ble_eq_true rfl) dX4_readQuality_39 ⟨Nat.le_of_ble_eq_true rfl, Nat.le_of_ble_eq_true rfl⟩ [0, 1] [2, 3, 4, 5, 6, 7, 8, 9] [8, 9, 0, 1, 2, 3, 4, 5, 6, 7] (fun (_ : Unit) => [(ht, .inr (4, [.ref hb, .int (nI tl), .int (nI (figC tx tl (cur + 2) 0 3))])), (hb, .inl (cI, 48, .inl (fun k_ => nI (tx k_)))), (hp, o2 r ti np nq nd), (r 0, .inl (cI, 3, .inl (fun k_ => nI (pu k_)))), (r 1, .inl (cI, 5, .inl (fun k_ => nI (P 0 k_)))), (r 2, .inl (cI, 5, .inl (fun k_ => nI (P 1 k_)))), (r 3, .inl (cI, 5, .inl (fun k_ => nI (P 2 k_)))), (r 4, .inl (cI, 5, .inl (fun k_ => nI (P 3 k_)))), (r 5, .inl (cI, 5, .inl (fun k_ => nI (P 4 k_)))), (r 6, .inl (cI, 5, .inl (fun k_ => nI (P 5 k_))))]) rfl rfl rfl (fun _ => rfl) (fun r39 z39 hp39 => ?_)
      try dsimp only at hp39
      subst hp39
      refine g_is (ws2 := [(ht, .inr (4, [.ref hb, .int (nI tl), .int (nI (figC tx tl (cur + 2) 0 3))])), (hb, .inl (cI, 48, .inl (fun k_ => nI (tx k_)))), (hp, o2 r ti np nq nd), (r 0, .inl (cI, 3, .inl (fun k_ => nI (pu k_)))), (r 1, .inl (cI, 5, .inl (fun k_ => nI (P 0 k_)))), (r 2, .inl (cI, 5, .inl (fun k_ => nI (P 1 k_)))), (r 3, .inl (cI, 5, .inl (fun k_ => nI (P 2 k_)))), (r 4, .inl (cI, 5, .inl (fun k_ => nI (P 3 k_)))), (r 5, .inl (cI, 5, .inl (fun k_ => nI (P 4 k_)))), (r 6, .inl (cI, 5, .inl (fun k_ => nI (P 5 k_))))]) (lv2 := [(0, .ref ht), (1, .ref hp), (2, .int (figV tx tl cur 0 (np - 1))), (3, .int (figV tx tl (cur + 1) 1 9))]) (st2 := [.int (figV tx tl (cur + 2) 0 3)]) rfl rfl rfl ?_
      refine g_istore (lv' := [(0, .ref ht), (1, .ref hp), (2, .int (figV tx tl cur 0 (np - 1))), (3, .int (figV tx tl (cur + 1) 1 9)), (4, .int (figV tx tl (cur + 2) 0 3))]) hC [1, 2, 3, 4, 0] dX4_readQuality_42 (by decide) rfl ?_
      refine g_iload hC 4 dX4_readQuality_44 rfl ?_
      refine g_if_ge hC 51 dX4_readQuality_46 (by decide) (fun h46t => ?_) (fun h46f => ?_)
      · have hf3 := figV_t h46t
        have efld : (figC tx tl (cur + 2) 0 3 : Nat) = cur + 3 := by rw [figC_e hf3]
        refine g_ws (ws2 := [(ht, .inr (4, [.ref hb, .int (nI tl), .int (nI (cur + 3))])), (hb, .inl (cI, 48, .inl (fun k_ => nI (tx k_)))), (hp, o2 r ti np nq nd), (r 0, .inl (cI, 3, .inl (fun k_ => nI (pu k_)))), (r 1, .inl (cI, 5, .inl (fun k_ => nI (P 0 k_)))), (r 2, .inl (cI, 5, .inl (fun k_ => nI (P 1 k_)))), (r 3, .inl (cI, 5, .inl (fun k_ => nI (P 2 k_)))), (r 4, .inl (cI, 5, .inl (fun k_ => nI (P 3 k_)))), (r 5, .inl (cI, 5, .inl (fun k_ => nI (P 4 k_)))), (r 6, .inl (cI, 5, .inl (fun k_ => nI (P 5 k_))))]) (congrArg (fun zz : Nat => ([(ht, .inr (4, [.ref hb, .int (nI tl), .int (nI zz)])), (hb, .inl (cI, 48, .inl (fun k_ => nI (tx k_)))), (hp, o2 r ti np nq nd), (r 0, .inl (cI, 3, .inl (fun k_ => nI (pu k_)))), (r 1, .inl (cI, 5, .inl (fun k_ => nI (P 0 k_)))), (r 2, .inl (cI, 5, .inl (fun k_ => nI (P 1 k_)))), (r 3, .inl (cI, 5, .inl (fun k_ => nI (P 2 k_)))), (r 4, .inl (cI, 5, .inl (fun k_ => nI (P 3 k_)))), (r 5, .inl (cI, 5, .inl (fun k_ => nI (P 4 k_)))), (r 6, .inl (cI, 5, .inl (fun k_ => nI (P 5 k_))))] : va_W)) efld) ?_
        refine g_aload_n hC 1 dX4_readQuality_51 rfl rfl ?_
        refine g_iload_n hC 2 dX4_readQuality_52 rfl rfl ?_
        refine g_iload_n hC 3 dX4_readQuality_53 rfl rfl ?_
        refine g_iload hC 4 dX4_readQuality_54 rfl ?_
        refine g_st (st2 := [.int (figV tx tl (cur + 2) 0 3), .int (figV tx tl (cur + 1) 1 9), .int (nI (tx cur - 48)), .ref hp]) (by rw [figV_e hf1]) ?_
        refine g_st (st2 := [.int (figV tx tl (cur + 2) 0 3), .int (nI (tx (cur + 1) - 48)), .int (nI (tx cur - 48)), .ref hp]) (by rw [figV_e hf2]) ?_
        refine g_top (y := nI (tx (cur + 2) - 48)) (figV_e hf3) ?_
        refine g_callVv (As := [.int (nI (tx cur - 48)), .int (nI (tx (cur + 1) - 48)), .int (nI (tx (cur + 2) - 48))]) (rest := []) hC (c_X2_addQuality l D cI cZ hp r ti np nq nd pu P (tx cur - 48) (tx (cur + 1) - 48) (tx (cur + 2) - 48) (by first | assumption | omega)) (cwV 3 hC.1.2.2.2.2 gX4_readQuality_X2_addQuality rfl rfl rfl dV_X2_addQuality ⟨Nat.le_of_ble_eq_true rfl, Nat.le_of_ble_eq_true rfl⟩) rfl rfl rfl rfl (Nat.le_of_ble_eq_true rfl) dX4_readQuality_56 ⟨Nat.le_of_ble_eq_true rfl, Nat.le_of_ble_eq_true rfl⟩ [2, 4, 5, 6] [0, 1, 3, 7, 8, 9] [0, 1, 6, 2, 7, 8, 9, 3, 4, 5] (fun (_ : Unit) => [(ht, .inr (4, [.ref hb, .int (nI tl), .int (nI (cur + 3))])), (hb, .inl (cI, 48, .inl (fun k_ => nI (tx k_)))), (hp, o2 r ti np (nq + 1) nd), (r 0, .inl (cI, 3, .inl (fun k_ => nI (pu k_)))), (r 1, .inl (cI, 5, .inl (fun k_ => nI (addQ P nq (tx cur - 48) (tx (cur + 1) - 48) (tx (cur + 2) - 48) 0 k_)))), (r 2, .inl (cI, 5, .inl (fun k_ => nI (addQ P nq (tx cur - 48) (tx (cur + 1) - 48) (tx (cur + 2) - 48) 1 k_)))), (r 3, .inl (cI, 5, .inl (fun k_ => nI (addQ P nq (tx cur - 48) (tx (cur + 1) - 48) (tx (cur + 2) - 48) 2 k_)))), (r 4, .inl (cI, 5, .inl (fun k_ => nI (P 3 k_)))), (r 5, .inl (cI, 5, .inl (fun k_ => nI (P 4 k_)))), (r 6, .inl (cI, 5, .inl (fun k_ => nI (P 5 k_))))]) rfl rfl rfl (fun _ => rfl) (fun z56 hp56 => ?_)
        refine g_is (ws2 := [(ht, .inr (4, [.ref hb, .int (nI tl), .int (nI (cur + 3))])), (hb, .inl (cI, 48, .inl (fun k_ => nI (tx k_)))), (hp, o2 r ti np (nq + 1) nd), (r 0, .inl (cI, 3, .inl (fun k_ => nI (pu k_)))), (r 1, .inl (cI, 5, .inl (fun k_ => nI (addQ P nq (tx cur - 48) (tx (cur + 1) - 48) (tx (cur + 2) - 48) 0 k_)))), (r 2, .inl (cI, 5, .inl (fun k_ => nI (addQ P nq (tx cur - 48) (tx (cur + 1) - 48) (tx (cur + 2) - 48) 1 k_)))), (r 3, .inl (cI, 5, .inl (fun k_ => nI (addQ P nq (tx cur - 48) (tx (cur + 1) - 48) (tx (cur + 2) - 48) 2 k_)))), (r 4, .inl (cI, 5, .inl (fun k_ => nI (P 3 k_)))), (r 5, .inl (cI, 5, .inl (fun k_ => nI (P 4 k_)))), (r 6, .inl (cI, 5, .inl (fun k_ => nI (P 5 k_))))]) (lv2 := [(0, .ref ht), (1, .ref hp), (2, .int (figV tx tl cur 0 (np - 1))), (3, .int (figV tx tl (cur + 1) 1 9)), (4, .int (figV tx tl (cur + 2) 0 3))]) (st2 := []) rfl rfl rfl ?_
        refine g_iconst (v := nI 1) hC dX4_readQuality_59 rfl ?_
        subst hQ
        refine g_zret (v := nI 1) hC (cur + 3, np, nq + 1, nd, pu, addQ P nq (tx cur - 48) (tx (cur + 1) - 48) (tx (cur + 2) - 48)) hr (by decide +kernel) ?_ rfl dX4_readQuality_60
        have e : rdQ tx tl (cur, np, nq, nd, pu, P) = (true, cur + 3, np, nq + 1, nd, pu, addQ P nq (tx cur - 48) (tx (cur + 1) - 48) (tx (cur + 2) - 48)) := (if_pos hf1).trans ((if_pos hf2).trans (if_pos hf3))
        rw [e]; exact ⟨(bI_t rfl).symm, rfl⟩
      have hf3 := figV_f htx h46f
      have efld : (figC tx tl (cur + 2) 0 3 : Nat) = cur + 2 := by rw [figC_n hf3]
      refine g_ws (ws2 := [(ht, .inr (4, [.ref hb, .int (nI tl), .int (nI (cur + 2))])), (hb, .inl (cI, 48, .inl (fun k_ => nI (tx k_)))), (hp, o2 r ti np nq nd), (r 0, .inl (cI, 3, .inl (fun k_ => nI (pu k_)))), (r 1, .inl (cI, 5, .inl (fun k_ => nI (P 0 k_)))), (r 2, .inl (cI, 5, .inl (fun k_ => nI (P 1 k_)))), (r 3, .inl (cI, 5, .inl (fun k_ => nI (P 2 k_)))), (r 4, .inl (cI, 5, .inl (fun k_ => nI (P 3 k_)))), (r 5, .inl (cI, 5, .inl (fun k_ => nI (P 4 k_)))), (r 6, .inl (cI, 5, .inl (fun k_ => nI (P 5 k_))))]) (congrArg (fun zz : Nat => ([(ht, .inr (4, [.ref hb, .int (nI tl), .int (nI zz)])), (hb, .inl (cI, 48, .inl (fun k_ => nI (tx k_)))), (hp, o2 r ti np nq nd), (r 0, .inl (cI, 3, .inl (fun k_ => nI (pu k_)))), (r 1, .inl (cI, 5, .inl (fun k_ => nI (P 0 k_)))), (r 2, .inl (cI, 5, .inl (fun k_ => nI (P 1 k_)))), (r 3, .inl (cI, 5, .inl (fun k_ => nI (P 2 k_)))), (r 4, .inl (cI, 5, .inl (fun k_ => nI (P 3 k_)))), (r 5, .inl (cI, 5, .inl (fun k_ => nI (P 4 k_)))), (r 6, .inl (cI, 5, .inl (fun k_ => nI (P 5 k_))))] : va_W)) efld) ?_
      refine g_iconst (v := nI 0) hC dX4_readQuality_49 rfl ?_
      subst hQ
      refine g_zret (v := nI 0) hC (cur + 2, np, nq, nd, pu, P) hr (by decide +kernel) ?_ rfl dX4_readQuality_50
      have e : rdQ tx tl (cur, np, nq, nd, pu, P) = (false, cur + 2, np, nq, nd, pu, P) := (if_pos hf1).trans ((if_pos hf2).trans (if_neg hf3))
      rw [e]; exact ⟨(bI_f (fun q => by cases q)).symm, rfl⟩
    have hf2 := figV_f htx h29f
    have efld : (figC tx tl (cur + 1) 1 9 : Nat) = cur + 1 := by rw [figC_n hf2]
    refine g_ws (ws2 := [(ht, .inr (4, [.ref hb, .int (nI tl), .int (nI (cur + 1))])), (hb, .inl (cI, 48, .inl (fun k_ => nI (tx k_)))), (hp, o2 r ti np nq nd), (r 0, .inl (cI, 3, .inl (fun k_ => nI (pu k_)))), (r 1, .inl (cI, 5, .inl (fun k_ => nI (P 0 k_)))), (r 2, .inl (cI, 5, .inl (fun k_ => nI (P 1 k_)))), (r 3, .inl (cI, 5, .inl (fun k_ => nI (P 2 k_)))), (r 4, .inl (cI, 5, .inl (fun k_ => nI (P 3 k_)))), (r 5, .inl (cI, 5, .inl (fun k_ => nI (P 4 k_)))), (r 6, .inl (cI, 5, .inl (fun k_ => nI (P 5 k_))))]) (congrArg (fun zz : Nat => ([(ht, .inr (4, [.ref hb, .int (nI tl), .int (nI zz)])), (hb, .inl (cI, 48, .inl (fun k_ => nI (tx k_)))), (hp, o2 r ti np nq nd), (r 0, .inl (cI, 3, .inl (fun k_ => nI (pu k_)))), (r 1, .inl (cI, 5, .inl (fun k_ => nI (P 0 k_)))), (r 2, .inl (cI, 5, .inl (fun k_ => nI (P 1 k_)))), (r 3, .inl (cI, 5, .inl (fun k_ => nI (P 2 k_)))), (r 4, .inl (cI, 5, .inl (fun k_ => nI (P 3 k_)))), (r 5, .inl (cI, 5, .inl (fun k_ => nI (P 4 k_)))), (r 6, .inl (cI, 5, .inl (fun k_ => nI (P 5 k_))))] : va_W)) efld) ?_
    refine g_iconst (v := (-1)) hC dX4_readQuality_32 rfl ?_
    refine g_goto hC 42 dX4_readQuality_33 (by decide) ?_
    refine g_istore (lv' := [(0, .ref ht), (1, .ref hp), (2, .int (figV tx tl cur 0 (np - 1))), (3, .int (figV tx tl (cur + 1) 1 9)), (4, .int (-1))]) hC [1, 2, 3, 4, 0] dX4_readQuality_42 (by decide) rfl ?_
    refine g_iload hC 4 dX4_readQuality_44 rfl ?_
    refine g_if_ge hC 51 dX4_readQuality_46 (by decide) (fun q => absurd q (by decide)) (fun _ => ?_)
    refine g_iconst (v := nI 0) hC dX4_readQuality_49 rfl ?_
    subst hQ
    refine g_zret (v := nI 0) hC (cur + 1, np, nq, nd, pu, P) hr (by decide +kernel) ?_ rfl dX4_readQuality_50
    have e : rdQ tx tl (cur, np, nq, nd, pu, P) = (false, cur + 1, np, nq, nd, pu, P) := (if_pos hf1).trans (if_neg hf2)
    rw [e]; exact ⟨(bI_f (fun q => by cases q)).symm, rfl⟩
  have hf1 := figV_f htx h13f
  have efld : (figC tx tl cur 0 (np - 1) : Nat) = cur := by rw [figC_n hf1]
  refine g_ws (ws2 := [(ht, .inr (4, [.ref hb, .int (nI tl), .int (nI cur)])), (hb, .inl (cI, 48, .inl (fun k_ => nI (tx k_)))), (hp, o2 r ti np nq nd), (r 0, .inl (cI, 3, .inl (fun k_ => nI (pu k_)))), (r 1, .inl (cI, 5, .inl (fun k_ => nI (P 0 k_)))), (r 2, .inl (cI, 5, .inl (fun k_ => nI (P 1 k_)))), (r 3, .inl (cI, 5, .inl (fun k_ => nI (P 2 k_)))), (r 4, .inl (cI, 5, .inl (fun k_ => nI (P 3 k_)))), (r 5, .inl (cI, 5, .inl (fun k_ => nI (P 4 k_)))), (r 6, .inl (cI, 5, .inl (fun k_ => nI (P 5 k_))))]) (congrArg (fun zz : Nat => ([(ht, .inr (4, [.ref hb, .int (nI tl), .int (nI zz)])), (hb, .inl (cI, 48, .inl (fun k_ => nI (tx k_)))), (hp, o2 r ti np nq nd), (r 0, .inl (cI, 3, .inl (fun k_ => nI (pu k_)))), (r 1, .inl (cI, 5, .inl (fun k_ => nI (P 0 k_)))), (r 2, .inl (cI, 5, .inl (fun k_ => nI (P 1 k_)))), (r 3, .inl (cI, 5, .inl (fun k_ => nI (P 2 k_)))), (r 4, .inl (cI, 5, .inl (fun k_ => nI (P 3 k_)))), (r 5, .inl (cI, 5, .inl (fun k_ => nI (P 4 k_)))), (r 6, .inl (cI, 5, .inl (fun k_ => nI (P 5 k_))))] : va_W)) efld) ?_
  refine g_iconst (v := (-1)) hC dX4_readQuality_16 rfl ?_
  refine g_goto hC 27 dX4_readQuality_17 (by decide) ?_
  refine g_istore_n (lv' := [(0, .ref ht), (1, .ref hp), (2, .int (figV tx tl cur 0 (np - 1))), (3, .int (-1))]) hC [1, 2, 3, 0] dX4_readQuality_27 rfl (by decide) rfl ?_
  refine g_iload_n hC 3 dX4_readQuality_28 rfl rfl ?_
  refine g_if_ge hC 36 dX4_readQuality_29 (by decide) (fun q => absurd q (by decide)) (fun _ => ?_)
  refine g_iconst (v := (-1)) hC dX4_readQuality_32 rfl ?_
  refine g_goto hC 42 dX4_readQuality_33 (by decide) ?_
  refine g_istore (lv' := [(0, .ref ht), (1, .ref hp), (2, .int (figV tx tl cur 0 (np - 1))), (3, .int (-1)), (4, .int (-1))]) hC [1, 2, 3, 4, 0] dX4_readQuality_42 (by decide) rfl ?_
  refine g_iload hC 4 dX4_readQuality_44 rfl ?_
  refine g_if_ge hC 51 dX4_readQuality_46 (by decide) (fun q => absurd q (by decide)) (fun _ => ?_)
  refine g_iconst (v := nI 0) hC dX4_readQuality_49 rfl ?_
  subst hQ
  refine g_zret (v := nI 0) hC (cur, np, nq, nd, pu, P) hr (by decide +kernel) ?_ rfl dX4_readQuality_50
  have e : rdQ tx tl (cur, np, nq, nd, pu, P) = (false, cur, np, nq, nd, pu, P) := if_neg hf1
  rw [e]; exact ⟨(bI_f (fun q => by cases q)).symm, rfl⟩

abbrev rm_X4_readDeed : Room := { frames := 3, cells := 0, slots := 0, locals := 64 }
set_option maxRecDepth 100000 in
set_option maxHeartbeats 4000000 in
theorem c_X4_readDeed (l : Launch) (D : va_G) (cI cZ : ClassId) (ht : Nat) (hb : Nat) (tx : Nat → Nat) (tl : Nat) (cur : Nat) (hp : Nat) (r : Nat → Nat) (ti : Int32) (np : Nat) (nq : Nat) (nd : Nat) (pu : Nat → Nat) (P : Nat → Nat → Nat) (hl : tl ≤ 48) (htx : ∀ k, tx k < 256) (hcl : cur ≤ tl) (hnp : np ≤ 3) (hnq : nq ≤ 5) (hnd : nd ≤ 5) (hq : nd < 5) (hz : 0 < nq) : CtI l yX4_readDeed wsX4_readDeed rm_X4_readDeed D cI cZ [.ref ht, .ref hp] [(ht, .inr (4, [.ref hb, .int (nI tl), .int (nI cur)])), (hb, .inl (cI, 48, .inl (fun k_ => nI (tx k_)))), (hp, o2 r ti np nq nd), (r 0, .inl (cI, 3, .inl (fun k_ => nI (pu k_)))), (r 1, .inl (cI, 5, .inl (fun k_ => nI (P 0 k_)))), (r 2, .inl (cI, 5, .inl (fun k_ => nI (P 1 k_)))), (r 3, .inl (cI, 5, .inl (fun k_ => nI (P 2 k_)))), (r 4, .inl (cI, 5, .inl (fun k_ => nI (P 3 k_)))), (r 5, .inl (cI, 5, .inl (fun k_ => nI (P 4 k_)))), (r 6, .inl (cI, 5, .inl (fun k_ => nI (P 5 k_))))] (fun (r : Int32) (z : Nat × Nat × Nat × Nat × (Nat → Nat) × (Nat → Nat → Nat)) => match z with | (cur2, np2, nq2, nd2, pu2, P2) => r = bI ((rdD tx tl (cur, np, nq, nd, pu, P)).1 = true) ∧ (cur2, np2, nq2, nd2, pu2, P2) = (rdD tx tl (cur, np, nq, nd, pu, P)).2) (fun (z : Nat × Nat × Nat × Nat × (Nat → Nat) × (Nat → Nat → Nat)) => match z with | (cur2, np2, nq2, nd2, pu2, P2) => [(ht, .inr (4, [.ref hb, .int (nI tl), .int (nI cur2)])), (hb, .inl (cI, 48, .inl (fun k_ => nI (tx k_)))), (hp, o2 r ti np2 nq2 nd2), (r 0, .inl (cI, 3, .inl (fun k_ => nI (pu2 k_)))), (r 1, .inl (cI, 5, .inl (fun k_ => nI (P2 0 k_)))), (r 2, .inl (cI, 5, .inl (fun k_ => nI (P2 1 k_)))), (r 3, .inl (cI, 5, .inl (fun k_ => nI (P2 2 k_)))), (r 4, .inl (cI, 5, .inl (fun k_ => nI (P2 3 k_)))), (r 5, .inl (cI, 5, .inl (fun k_ => nI (P2 4 k_)))), (r 6, .inl (cI, 5, .inl (fun k_ => nI (P2 5 k_))))]) 0 0 := by
  refine g_startI (ret := (some .boolean)) (own := RX4) (lv0 := [(0, .ref ht), (1, .ref hp)]) (by decide) rfl rfl (Nat.le_of_ble_eq_true rfl) rfl ?_
  intro p e s m args below meth cd A Q hin hr hQ hC
  have hcw2 : ∀ w ∈ wsX20, w ∈ wsX4_readDeed := fun _ h => List.mem_cons_of_mem _ (List.mem_append_left _ (List.mem_append_right _ h))
  refine g_aload_n hC 0 dX4_readDeed_0 rfl rfl ?_
  refine g_iconst (v := nI 0) hC dX4_readDeed_1 rfl ?_
  refine g_aload_n hC 1 dX4_readDeed_2 rfl rfl ?_
  refine g_getN (C := RX2) (T := TX2) (N := 11) (ci := 2) (v := .int (nI nq)) hC hcw2 2 rfl rfl 9 (by decide) (hC.2.2.1.f 6 rfl) (fun _ h => h) rfl dX4_readDeed_3 ?_
  refine g_iconst (v := nI 1) hC dX4_readDeed_6 rfl ?_
  refine g_isub_n (a := nq) (b := 1) hC (by omega) dX4_readDeed_7 ?_
  refine g_callVi (As := [.int (nI 0), .int (nI (nq - 1))]) (rest := []) hC (c_X4_figure l D cI cZ ht hb tx tl cur 0 (nq - 1) (by first | assumption | omega) (by first | assumption | omega) (by first | assumption | omega) (by first | assumption | omega) (by first | assumption | omega)) (cwV 2 hC.1.2.2.2.2 gX4_readDeed_X4_figure rfl rfl rfl dV_X4_figure ⟨Nat.le_of_ble_eq_true rfl, Nat.le_of_ble_eq_true rfl⟩) rfl rfl rfl rfl (Nat.le_of_ble_eq_true rfl) dX4_readDeed_8 ⟨Nat.le_of_ble_eq_true rfl, Nat.le_of_ble_eq_true rfl⟩ [0, 1] [2, 3, 4, 5, 6, 7, 8, 9] [8, 9, 0, 1, 2, 3, 4, 5, 6, 7] (fun (_ : Unit) => [(ht, .inr (4, [.ref hb, .int (nI tl), .int (nI (figC tx tl cur 0 (nq - 1)))])), (hb, .inl (cI, 48, .inl (fun k_ => nI (tx k_)))), (hp, o2 r ti np nq nd), (r 0, .inl (cI, 3, .inl (fun k_ => nI (pu k_)))), (r 1, .inl (cI, 5, .inl (fun k_ => nI (P 0 k_)))), (r 2, .inl (cI, 5, .inl (fun k_ => nI (P 1 k_)))), (r 3, .inl (cI, 5, .inl (fun k_ => nI (P 2 k_)))), (r 4, .inl (cI, 5, .inl (fun k_ => nI (P 3 k_)))), (r 5, .inl (cI, 5, .inl (fun k_ => nI (P 4 k_)))), (r 6, .inl (cI, 5, .inl (fun k_ => nI (P 5 k_))))]) rfl rfl rfl (fun _ => rfl) (fun r8 z8 hp8 => ?_)
  try dsimp only at hp8
  subst hp8
  refine g_is (ws2 := [(ht, .inr (4, [.ref hb, .int (nI tl), .int (nI (figC tx tl cur 0 (nq - 1)))])), (hb, .inl (cI, 48, .inl (fun k_ => nI (tx k_)))), (hp, o2 r ti np nq nd), (r 0, .inl (cI, 3, .inl (fun k_ => nI (pu k_)))), (r 1, .inl (cI, 5, .inl (fun k_ => nI (P 0 k_)))), (r 2, .inl (cI, 5, .inl (fun k_ => nI (P 1 k_)))), (r 3, .inl (cI, 5, .inl (fun k_ => nI (P 2 k_)))), (r 4, .inl (cI, 5, .inl (fun k_ => nI (P 3 k_)))), (r 5, .inl (cI, 5, .inl (fun k_ => nI (P 4 k_)))), (r 6, .inl (cI, 5, .inl (fun k_ => nI (P 5 k_))))]) (lv2 := [(0, .ref ht), (1, .ref hp)]) (st2 := [.int (figV tx tl cur 0 (nq - 1))]) rfl rfl rfl ?_
  refine g_istore_n (lv' := [(0, .ref ht), (1, .ref hp), (2, .int (figV tx tl cur 0 (nq - 1)))]) hC [1, 2, 0] dX4_readDeed_11 rfl (by decide) rfl ?_
  refine g_iload_n hC 2 dX4_readDeed_12 rfl rfl ?_
  refine g_if_ge hC 20 dX4_readDeed_13 (by decide) (fun h13t => ?_) (fun h13f => ?_)
  · have hf1 := figV_t h13t
    have efld : (figC tx tl cur 0 (nq - 1) : Nat) = cur + 1 := by rw [figC_e hf1]
    refine g_ws (ws2 := [(ht, .inr (4, [.ref hb, .int (nI tl), .int (nI (cur + 1))])), (hb, .inl (cI, 48, .inl (fun k_ => nI (tx k_)))), (hp, o2 r ti np nq nd), (r 0, .inl (cI, 3, .inl (fun k_ => nI (pu k_)))), (r 1, .inl (cI, 5, .inl (fun k_ => nI (P 0 k_)))), (r 2, .inl (cI, 5, .inl (fun k_ => nI (P 1 k_)))), (r 3, .inl (cI, 5, .inl (fun k_ => nI (P 2 k_)))), (r 4, .inl (cI, 5, .inl (fun k_ => nI (P 3 k_)))), (r 5, .inl (cI, 5, .inl (fun k_ => nI (P 4 k_)))), (r 6, .inl (cI, 5, .inl (fun k_ => nI (P 5 k_))))]) (congrArg (fun zz : Nat => ([(ht, .inr (4, [.ref hb, .int (nI tl), .int (nI zz)])), (hb, .inl (cI, 48, .inl (fun k_ => nI (tx k_)))), (hp, o2 r ti np nq nd), (r 0, .inl (cI, 3, .inl (fun k_ => nI (pu k_)))), (r 1, .inl (cI, 5, .inl (fun k_ => nI (P 0 k_)))), (r 2, .inl (cI, 5, .inl (fun k_ => nI (P 1 k_)))), (r 3, .inl (cI, 5, .inl (fun k_ => nI (P 2 k_)))), (r 4, .inl (cI, 5, .inl (fun k_ => nI (P 3 k_)))), (r 5, .inl (cI, 5, .inl (fun k_ => nI (P 4 k_)))), (r 6, .inl (cI, 5, .inl (fun k_ => nI (P 5 k_))))] : va_W)) efld) ?_
    refine g_aload_n hC 0 dX4_readDeed_20 rfl rfl ?_
    refine g_iconst (v := nI 0) hC dX4_readDeed_21 rfl ?_
    refine g_bipush (v := nI 9) hC dX4_readDeed_22 (by decide +kernel) ?_
    refine g_callVi (As := [.int (nI 0), .int (nI 9)]) (rest := []) hC (c_X4_figure l D cI cZ ht hb tx tl (cur + 1) 0 9 (by first | assumption | omega) (by first | assumption | omega) (by first | assumption | omega) (by first | assumption | omega) (by first | assumption | omega)) (cwV 2 hC.1.2.2.2.2 gX4_readDeed_X4_figure rfl rfl rfl dV_X4_figure ⟨Nat.le_of_ble_eq_true rfl, Nat.le_of_ble_eq_true rfl⟩) rfl rfl rfl rfl (Nat.le_of_ble_eq_true rfl) dX4_readDeed_24 ⟨Nat.le_of_ble_eq_true rfl, Nat.le_of_ble_eq_true rfl⟩ [0, 1] [2, 3, 4, 5, 6, 7, 8, 9] [8, 9, 0, 1, 2, 3, 4, 5, 6, 7] (fun (_ : Unit) => [(ht, .inr (4, [.ref hb, .int (nI tl), .int (nI (figC tx tl (cur + 1) 0 9))])), (hb, .inl (cI, 48, .inl (fun k_ => nI (tx k_)))), (hp, o2 r ti np nq nd), (r 0, .inl (cI, 3, .inl (fun k_ => nI (pu k_)))), (r 1, .inl (cI, 5, .inl (fun k_ => nI (P 0 k_)))), (r 2, .inl (cI, 5, .inl (fun k_ => nI (P 1 k_)))), (r 3, .inl (cI, 5, .inl (fun k_ => nI (P 2 k_)))), (r 4, .inl (cI, 5, .inl (fun k_ => nI (P 3 k_)))), (r 5, .inl (cI, 5, .inl (fun k_ => nI (P 4 k_)))), (r 6, .inl (cI, 5, .inl (fun k_ => nI (P 5 k_))))]) rfl rfl rfl (fun _ => rfl) (fun r24 z24 hp24 => ?_)
    try dsimp only at hp24
    subst hp24
    refine g_is (ws2 := [(ht, .inr (4, [.ref hb, .int (nI tl), .int (nI (figC tx tl (cur + 1) 0 9))])), (hb, .inl (cI, 48, .inl (fun k_ => nI (tx k_)))), (hp, o2 r ti np nq nd), (r 0, .inl (cI, 3, .inl (fun k_ => nI (pu k_)))), (r 1, .inl (cI, 5, .inl (fun k_ => nI (P 0 k_)))), (r 2, .inl (cI, 5, .inl (fun k_ => nI (P 1 k_)))), (r 3, .inl (cI, 5, .inl (fun k_ => nI (P 2 k_)))), (r 4, .inl (cI, 5, .inl (fun k_ => nI (P 3 k_)))), (r 5, .inl (cI, 5, .inl (fun k_ => nI (P 4 k_)))), (r 6, .inl (cI, 5, .inl (fun k_ => nI (P 5 k_))))]) (lv2 := [(0, .ref ht), (1, .ref hp), (2, .int (figV tx tl cur 0 (nq - 1)))]) (st2 := [.int (figV tx tl (cur + 1) 0 9)]) rfl rfl rfl ?_
    refine g_istore_n (lv' := [(0, .ref ht), (1, .ref hp), (2, .int (figV tx tl cur 0 (nq - 1))), (3, .int (figV tx tl (cur + 1) 0 9))]) hC [1, 2, 3, 0] dX4_readDeed_27 rfl (by decide) rfl ?_
    refine g_iload_n hC 3 dX4_readDeed_28 rfl rfl ?_
    refine g_if_ge hC 36 dX4_readDeed_29 (by decide) (fun h29t => ?_) (fun h29f => ?_)
    · have hf2 := figV_t h29t
      have efld : (figC tx tl (cur + 1) 0 9 : Nat) = cur + 2 := by rw [figC_e hf2]
      refine g_ws (ws2 := [(ht, .inr (4, [.ref hb, .int (nI tl), .int (nI (cur + 2))])), (hb, .inl (cI, 48, .inl (fun k_ => nI (tx k_)))), (hp, o2 r ti np nq nd), (r 0, .inl (cI, 3, .inl (fun k_ => nI (pu k_)))), (r 1, .inl (cI, 5, .inl (fun k_ => nI (P 0 k_)))), (r 2, .inl (cI, 5, .inl (fun k_ => nI (P 1 k_)))), (r 3, .inl (cI, 5, .inl (fun k_ => nI (P 2 k_)))), (r 4, .inl (cI, 5, .inl (fun k_ => nI (P 3 k_)))), (r 5, .inl (cI, 5, .inl (fun k_ => nI (P 4 k_)))), (r 6, .inl (cI, 5, .inl (fun k_ => nI (P 5 k_))))]) (congrArg (fun zz : Nat => ([(ht, .inr (4, [.ref hb, .int (nI tl), .int (nI zz)])), (hb, .inl (cI, 48, .inl (fun k_ => nI (tx k_)))), (hp, o2 r ti np nq nd), (r 0, .inl (cI, 3, .inl (fun k_ => nI (pu k_)))), (r 1, .inl (cI, 5, .inl (fun k_ => nI (P 0 k_)))), (r 2, .inl (cI, 5, .inl (fun k_ => nI (P 1 k_)))), (r 3, .inl (cI, 5, .inl (fun k_ => nI (P 2 k_)))), (r 4, .inl (cI, 5, .inl (fun k_ => nI (P 3 k_)))), (r 5, .inl (cI, 5, .inl (fun k_ => nI (P 4 k_)))), (r 6, .inl (cI, 5, .inl (fun k_ => nI (P 5 k_))))] : va_W)) efld) ?_
      refine g_aload_n hC 0 dX4_readDeed_36 rfl rfl ?_
      refine g_iconst (v := nI 0) hC dX4_readDeed_37 rfl ?_
      refine g_bipush (v := nI 9) hC dX4_readDeed_38 (by decide +kernel) ?_
      refine g_callVi (As := [.int (nI 0), .int (nI 9)]) (rest := []) hC (c_X4_figure l D cI cZ ht hb tx tl (cur + 2) 0 9 (by first | assumption | omega) (by first | assumption | omega) (by first | assumption | omega) (by first | assumption | omega) (by first | assumption | omega)) (cwV 2 hC.1.2.2.2.2 gX4_readDeed_X4_figure rfl rfl rfl dV_X4_figure ⟨Nat.le_of_ble_eq_true rfl, Nat.le_of_ble_eq_true rfl⟩) rfl rfl rfl rfl (Nat.le_of_ble_eq_true rfl) dX4_readDeed_40 ⟨Nat.le_of_ble_eq_true rfl, Nat.le_of_ble_eq_true rfl⟩ [0, 1] [2, 3, 4, 5, 6, 7, 8, 9] [8, 9, 0, 1, 2, 3, 4, 5, 6, 7] (fun (_ : Unit) => [(ht, .inr (4, [.ref hb, .int (nI tl), .int (nI (figC tx tl (cur + 2) 0 9))])), (hb, .inl (cI, 48, .inl (fun k_ => nI (tx k_)))), (hp, o2 r ti np nq nd), (r 0, .inl (cI, 3, .inl (fun k_ => nI (pu k_)))), (r 1, .inl (cI, 5, .inl (fun k_ => nI (P 0 k_)))), (r 2, .inl (cI, 5, .inl (fun k_ => nI (P 1 k_)))), (r 3, .inl (cI, 5, .inl (fun k_ => nI (P 2 k_)))), (r 4, .inl (cI, 5, .inl (fun k_ => nI (P 3 k_)))), (r 5, .inl (cI, 5, .inl (fun k_ => nI (P 4 k_)))), (r 6, .inl (cI, 5, .inl (fun k_ => nI (P 5 k_))))]) rfl rfl rfl (fun _ => rfl) (fun r40 z40 hp40 => ?_)
      try dsimp only at hp40
      subst hp40
      refine g_is (ws2 := [(ht, .inr (4, [.ref hb, .int (nI tl), .int (nI (figC tx tl (cur + 2) 0 9))])), (hb, .inl (cI, 48, .inl (fun k_ => nI (tx k_)))), (hp, o2 r ti np nq nd), (r 0, .inl (cI, 3, .inl (fun k_ => nI (pu k_)))), (r 1, .inl (cI, 5, .inl (fun k_ => nI (P 0 k_)))), (r 2, .inl (cI, 5, .inl (fun k_ => nI (P 1 k_)))), (r 3, .inl (cI, 5, .inl (fun k_ => nI (P 2 k_)))), (r 4, .inl (cI, 5, .inl (fun k_ => nI (P 3 k_)))), (r 5, .inl (cI, 5, .inl (fun k_ => nI (P 4 k_)))), (r 6, .inl (cI, 5, .inl (fun k_ => nI (P 5 k_))))]) (lv2 := [(0, .ref ht), (1, .ref hp), (2, .int (figV tx tl cur 0 (nq - 1))), (3, .int (figV tx tl (cur + 1) 0 9))]) (st2 := [.int (figV tx tl (cur + 2) 0 9)]) rfl rfl rfl ?_
      refine g_istore (lv' := [(0, .ref ht), (1, .ref hp), (2, .int (figV tx tl cur 0 (nq - 1))), (3, .int (figV tx tl (cur + 1) 0 9)), (4, .int (figV tx tl (cur + 2) 0 9))]) hC [1, 2, 3, 4, 0] dX4_readDeed_43 (by decide) rfl ?_
      refine g_iload hC 4 dX4_readDeed_45 rfl ?_
      refine g_if_ge hC 52 dX4_readDeed_47 (by decide) (fun h47t => ?_) (fun h47f => ?_)
      · have hf3 := figV_t h47t
        have efld : (figC tx tl (cur + 2) 0 9 : Nat) = cur + 3 := by rw [figC_e hf3]
        refine g_ws (ws2 := [(ht, .inr (4, [.ref hb, .int (nI tl), .int (nI (cur + 3))])), (hb, .inl (cI, 48, .inl (fun k_ => nI (tx k_)))), (hp, o2 r ti np nq nd), (r 0, .inl (cI, 3, .inl (fun k_ => nI (pu k_)))), (r 1, .inl (cI, 5, .inl (fun k_ => nI (P 0 k_)))), (r 2, .inl (cI, 5, .inl (fun k_ => nI (P 1 k_)))), (r 3, .inl (cI, 5, .inl (fun k_ => nI (P 2 k_)))), (r 4, .inl (cI, 5, .inl (fun k_ => nI (P 3 k_)))), (r 5, .inl (cI, 5, .inl (fun k_ => nI (P 4 k_)))), (r 6, .inl (cI, 5, .inl (fun k_ => nI (P 5 k_))))]) (congrArg (fun zz : Nat => ([(ht, .inr (4, [.ref hb, .int (nI tl), .int (nI zz)])), (hb, .inl (cI, 48, .inl (fun k_ => nI (tx k_)))), (hp, o2 r ti np nq nd), (r 0, .inl (cI, 3, .inl (fun k_ => nI (pu k_)))), (r 1, .inl (cI, 5, .inl (fun k_ => nI (P 0 k_)))), (r 2, .inl (cI, 5, .inl (fun k_ => nI (P 1 k_)))), (r 3, .inl (cI, 5, .inl (fun k_ => nI (P 2 k_)))), (r 4, .inl (cI, 5, .inl (fun k_ => nI (P 3 k_)))), (r 5, .inl (cI, 5, .inl (fun k_ => nI (P 4 k_)))), (r 6, .inl (cI, 5, .inl (fun k_ => nI (P 5 k_))))] : va_W)) efld) ?_
        refine g_aload_n hC 1 dX4_readDeed_52 rfl rfl ?_
        refine g_iload_n hC 2 dX4_readDeed_53 rfl rfl ?_
        refine g_iload_n hC 3 dX4_readDeed_54 rfl rfl ?_
        refine g_iload hC 4 dX4_readDeed_55 rfl ?_
        refine g_st (st2 := [.int (figV tx tl (cur + 2) 0 9), .int (figV tx tl (cur + 1) 0 9), .int (nI (tx cur - 48)), .ref hp]) (by rw [figV_e hf1]) ?_
        refine g_st (st2 := [.int (figV tx tl (cur + 2) 0 9), .int (nI (tx (cur + 1) - 48)), .int (nI (tx cur - 48)), .ref hp]) (by rw [figV_e hf2]) ?_
        refine g_top (y := nI (tx (cur + 2) - 48)) (figV_e hf3) ?_
        refine g_callVv (As := [.int (nI (tx cur - 48)), .int (nI (tx (cur + 1) - 48)), .int (nI (tx (cur + 2) - 48))]) (rest := []) hC (c_X2_addDeed l D cI cZ hp r ti np nq nd pu P (tx cur - 48) (tx (cur + 1) - 48) (tx (cur + 2) - 48) (by first | assumption | omega)) (cwV 3 hC.1.2.2.2.2 gX4_readDeed_X2_addDeed rfl rfl rfl dV_X2_addDeed ⟨Nat.le_of_ble_eq_true rfl, Nat.le_of_ble_eq_true rfl⟩) rfl rfl rfl rfl (Nat.le_of_ble_eq_true rfl) dX4_readDeed_57 ⟨Nat.le_of_ble_eq_true rfl, Nat.le_of_ble_eq_true rfl⟩ [2, 7, 8, 9] [0, 1, 3, 4, 5, 6] [0, 1, 6, 2, 3, 4, 5, 7, 8, 9] (fun (_ : Unit) => [(ht, .inr (4, [.ref hb, .int (nI tl), .int (nI (cur + 3))])), (hb, .inl (cI, 48, .inl (fun k_ => nI (tx k_)))), (hp, o2 r ti np nq (nd + 1)), (r 0, .inl (cI, 3, .inl (fun k_ => nI (pu k_)))), (r 1, .inl (cI, 5, .inl (fun k_ => nI (P 0 k_)))), (r 2, .inl (cI, 5, .inl (fun k_ => nI (P 1 k_)))), (r 3, .inl (cI, 5, .inl (fun k_ => nI (P 2 k_)))), (r 4, .inl (cI, 5, .inl (fun k_ => nI (addD P nd (tx cur - 48) (tx (cur + 1) - 48) (tx (cur + 2) - 48) 3 k_)))), (r 5, .inl (cI, 5, .inl (fun k_ => nI (addD P nd (tx cur - 48) (tx (cur + 1) - 48) (tx (cur + 2) - 48) 4 k_)))), (r 6, .inl (cI, 5, .inl (fun k_ => nI (addD P nd (tx cur - 48) (tx (cur + 1) - 48) (tx (cur + 2) - 48) 5 k_))))]) rfl rfl rfl (fun _ => rfl) (fun z57 hp57 => ?_)
        refine g_is (ws2 := [(ht, .inr (4, [.ref hb, .int (nI tl), .int (nI (cur + 3))])), (hb, .inl (cI, 48, .inl (fun k_ => nI (tx k_)))), (hp, o2 r ti np nq (nd + 1)), (r 0, .inl (cI, 3, .inl (fun k_ => nI (pu k_)))), (r 1, .inl (cI, 5, .inl (fun k_ => nI (P 0 k_)))), (r 2, .inl (cI, 5, .inl (fun k_ => nI (P 1 k_)))), (r 3, .inl (cI, 5, .inl (fun k_ => nI (P 2 k_)))), (r 4, .inl (cI, 5, .inl (fun k_ => nI (addD P nd (tx cur - 48) (tx (cur + 1) - 48) (tx (cur + 2) - 48) 3 k_)))), (r 5, .inl (cI, 5, .inl (fun k_ => nI (addD P nd (tx cur - 48) (tx (cur + 1) - 48) (tx (cur + 2) - 48) 4 k_)))), (r 6, .inl (cI, 5, .inl (fun k_ => nI (addD P nd (tx cur - 48) (tx (cur + 1) - 48) (tx (cur + 2) - 48) 5 k_))))]) (lv2 := [(0, .ref ht), (1, .ref hp), (2, .int (figV tx tl cur 0 (nq - 1))), (3, .int (figV tx tl (cur + 1) 0 9)), (4, .int (figV tx tl (cur + 2) 0 9))]) (st2 := []) rfl rfl rfl ?_
        refine g_iconst (v := nI 1) hC dX4_readDeed_60 rfl ?_
        subst hQ
        refine g_zret (v := nI 1) hC (cur + 3, np, nq, nd + 1, pu, addD P nd (tx cur - 48) (tx (cur + 1) - 48) (tx (cur + 2) - 48)) hr (by decide +kernel) ?_ rfl dX4_readDeed_61
        have e : rdD tx tl (cur, np, nq, nd, pu, P) = (true, cur + 3, np, nq, nd + 1, pu, addD P nd (tx cur - 48) (tx (cur + 1) - 48) (tx (cur + 2) - 48)) := (if_pos hf1).trans ((if_pos hf2).trans (if_pos hf3))
        rw [e]; exact ⟨(bI_t rfl).symm, rfl⟩
      have hf3 := figV_f htx h47f
      have efld : (figC tx tl (cur + 2) 0 9 : Nat) = cur + 2 := by rw [figC_n hf3]
      refine g_ws (ws2 := [(ht, .inr (4, [.ref hb, .int (nI tl), .int (nI (cur + 2))])), (hb, .inl (cI, 48, .inl (fun k_ => nI (tx k_)))), (hp, o2 r ti np nq nd), (r 0, .inl (cI, 3, .inl (fun k_ => nI (pu k_)))), (r 1, .inl (cI, 5, .inl (fun k_ => nI (P 0 k_)))), (r 2, .inl (cI, 5, .inl (fun k_ => nI (P 1 k_)))), (r 3, .inl (cI, 5, .inl (fun k_ => nI (P 2 k_)))), (r 4, .inl (cI, 5, .inl (fun k_ => nI (P 3 k_)))), (r 5, .inl (cI, 5, .inl (fun k_ => nI (P 4 k_)))), (r 6, .inl (cI, 5, .inl (fun k_ => nI (P 5 k_))))]) (congrArg (fun zz : Nat => ([(ht, .inr (4, [.ref hb, .int (nI tl), .int (nI zz)])), (hb, .inl (cI, 48, .inl (fun k_ => nI (tx k_)))), (hp, o2 r ti np nq nd), (r 0, .inl (cI, 3, .inl (fun k_ => nI (pu k_)))), (r 1, .inl (cI, 5, .inl (fun k_ => nI (P 0 k_)))), (r 2, .inl (cI, 5, .inl (fun k_ => nI (P 1 k_)))), (r 3, .inl (cI, 5, .inl (fun k_ => nI (P 2 k_)))), (r 4, .inl (cI, 5, .inl (fun k_ => nI (P 3 k_)))), (r 5, .inl (cI, 5, .inl (fun k_ => nI (P 4 k_)))), (r 6, .inl (cI, 5, .inl (fun k_ => nI (P 5 k_))))] : va_W)) efld) ?_
      refine g_iconst (v := nI 0) hC dX4_readDeed_50 rfl ?_
      subst hQ
      refine g_zret (v := nI 0) hC (cur + 2, np, nq, nd, pu, P) hr (by decide +kernel) ?_ rfl dX4_readDeed_51
      have e : rdD tx tl (cur, np, nq, nd, pu, P) = (false, cur + 2, np, nq, nd, pu, P) := (if_pos hf1).trans ((if_pos hf2).trans (if_neg hf3))
      rw [e]; exact ⟨(bI_f (fun q => by cases q)).symm, rfl⟩
    have hf2 := figV_f htx h29f
    have efld : (figC tx tl (cur + 1) 0 9 : Nat) = cur + 1 := by rw [figC_n hf2]
    refine g_ws (ws2 := [(ht, .inr (4, [.ref hb, .int (nI tl), .int (nI (cur + 1))])), (hb, .inl (cI, 48, .inl (fun k_ => nI (tx k_)))), (hp, o2 r ti np nq nd), (r 0, .inl (cI, 3, .inl (fun k_ => nI (pu k_)))), (r 1, .inl (cI, 5, .inl (fun k_ => nI (P 0 k_)))), (r 2, .inl (cI, 5, .inl (fun k_ => nI (P 1 k_)))), (r 3, .inl (cI, 5, .inl (fun k_ => nI (P 2 k_)))), (r 4, .inl (cI, 5, .inl (fun k_ => nI (P 3 k_)))), (r 5, .inl (cI, 5, .inl (fun k_ => nI (P 4 k_)))), (r 6, .inl (cI, 5, .inl (fun k_ => nI (P 5 k_))))]) (congrArg (fun zz : Nat => ([(ht, .inr (4, [.ref hb, .int (nI tl), .int (nI zz)])), (hb, .inl (cI, 48, .inl (fun k_ => nI (tx k_)))), (hp, o2 r ti np nq nd), (r 0, .inl (cI, 3, .inl (fun k_ => nI (pu k_)))), (r 1, .inl (cI, 5, .inl (fun k_ => nI (P 0 k_)))), (r 2, .inl (cI, 5, .inl (fun k_ => nI (P 1 k_)))), (r 3, .inl (cI, 5, .inl (fun k_ => nI (P 2 k_)))), (r 4, .inl (cI, 5, .inl (fun k_ => nI (P 3 k_)))), (r 5, .inl (cI, 5, .inl (fun k_ => nI (P 4 k_)))), (r 6, .inl (cI, 5, .inl (fun k_ => nI (P 5 k_))))] : va_W)) efld) ?_
    refine g_iconst (v := (-1)) hC dX4_readDeed_32 rfl ?_
    refine g_goto hC 43 dX4_readDeed_33 (by decide) ?_
    refine g_istore (lv' := [(0, .ref ht), (1, .ref hp), (2, .int (figV tx tl cur 0 (nq - 1))), (3, .int (figV tx tl (cur + 1) 0 9)), (4, .int (-1))]) hC [1, 2, 3, 4, 0] dX4_readDeed_43 (by decide) rfl ?_
    refine g_iload hC 4 dX4_readDeed_45 rfl ?_
    refine g_if_ge hC 52 dX4_readDeed_47 (by decide) (fun q => absurd q (by decide)) (fun _ => ?_)
    refine g_iconst (v := nI 0) hC dX4_readDeed_50 rfl ?_
    subst hQ
    refine g_zret (v := nI 0) hC (cur + 1, np, nq, nd, pu, P) hr (by decide +kernel) ?_ rfl dX4_readDeed_51
    have e : rdD tx tl (cur, np, nq, nd, pu, P) = (false, cur + 1, np, nq, nd, pu, P) := (if_pos hf1).trans (if_neg hf2)
    rw [e]; exact ⟨(bI_f (fun q => by cases q)).symm, rfl⟩
  have hf1 := figV_f htx h13f
  have efld : (figC tx tl cur 0 (nq - 1) : Nat) = cur := by rw [figC_n hf1]
  refine g_ws (ws2 := [(ht, .inr (4, [.ref hb, .int (nI tl), .int (nI cur)])), (hb, .inl (cI, 48, .inl (fun k_ => nI (tx k_)))), (hp, o2 r ti np nq nd), (r 0, .inl (cI, 3, .inl (fun k_ => nI (pu k_)))), (r 1, .inl (cI, 5, .inl (fun k_ => nI (P 0 k_)))), (r 2, .inl (cI, 5, .inl (fun k_ => nI (P 1 k_)))), (r 3, .inl (cI, 5, .inl (fun k_ => nI (P 2 k_)))), (r 4, .inl (cI, 5, .inl (fun k_ => nI (P 3 k_)))), (r 5, .inl (cI, 5, .inl (fun k_ => nI (P 4 k_)))), (r 6, .inl (cI, 5, .inl (fun k_ => nI (P 5 k_))))]) (congrArg (fun zz : Nat => ([(ht, .inr (4, [.ref hb, .int (nI tl), .int (nI zz)])), (hb, .inl (cI, 48, .inl (fun k_ => nI (tx k_)))), (hp, o2 r ti np nq nd), (r 0, .inl (cI, 3, .inl (fun k_ => nI (pu k_)))), (r 1, .inl (cI, 5, .inl (fun k_ => nI (P 0 k_)))), (r 2, .inl (cI, 5, .inl (fun k_ => nI (P 1 k_)))), (r 3, .inl (cI, 5, .inl (fun k_ => nI (P 2 k_)))), (r 4, .inl (cI, 5, .inl (fun k_ => nI (P 3 k_)))), (r 5, .inl (cI, 5, .inl (fun k_ => nI (P 4 k_)))), (r 6, .inl (cI, 5, .inl (fun k_ => nI (P 5 k_))))] : va_W)) efld) ?_
  refine g_iconst (v := (-1)) hC dX4_readDeed_16 rfl ?_
  refine g_goto hC 27 dX4_readDeed_17 (by decide) ?_
  refine g_istore_n (lv' := [(0, .ref ht), (1, .ref hp), (2, .int (figV tx tl cur 0 (nq - 1))), (3, .int (-1))]) hC [1, 2, 3, 0] dX4_readDeed_27 rfl (by decide) rfl ?_
  refine g_iload_n hC 3 dX4_readDeed_28 rfl rfl ?_
  refine g_if_ge hC 36 dX4_readDeed_29 (by decide) (fun q => absurd q (by decide)) (fun _ => ?_)
  refine g_iconst (v := (-1)) hC dX4_readDeed_32 rfl ?_
  refine g_goto hC 43 dX4_readDeed_33 (by decide) ?_
  refine g_istore (lv' := [(0, .ref ht), (1, .ref hp), (2, .int (figV tx tl cur 0 (nq - 1))), (3, .int (-1)), (4, .int (-1))]) hC [1, 2, 3, 4, 0] dX4_readDeed_43 (by decide) rfl ?_
  refine g_iload hC 4 dX4_readDeed_45 rfl ?_
  refine g_if_ge hC 52 dX4_readDeed_47 (by decide) (fun q => absurd q (by decide)) (fun _ => ?_)
  refine g_iconst (v := nI 0) hC dX4_readDeed_50 rfl ?_
  subst hQ
  refine g_zret (v := nI 0) hC (cur, np, nq, nd, pu, P) hr (by decide +kernel) ?_ rfl dX4_readDeed_51
  have e : rdD tx tl (cur, np, nq, nd, pu, P) = (false, cur, np, nq, nd, pu, P) := if_neg hf1
  rw [e]; exact ⟨(bI_f (fun q => by cases q)).symm, rfl⟩

abbrev rm_X4_readThing : Room := { frames := 4, cells := 0, slots := 0, locals := 88 }
set_option maxRecDepth 100000 in
set_option maxHeartbeats 4000000 in
theorem c_X4_readThing (l : Launch) (D : va_G) (cI cZ : ClassId) (ht : Nat) (hb : Nat) (tx : Nat → Nat) (tl : Nat) (cur : Nat) (hp : Nat) (r : Nat → Nat) (ti : Int32) (np : Nat) (nq : Nat) (nd : Nat) (pu : Nat → Nat) (P : Nat → Nat → Nat) (hl : tl ≤ 48) (htx : ∀ k, tx k < 256) (hc : cur < tl) (hnp : np ≤ 3) (hnq : nq ≤ 5) (hnd : nd ≤ 5) : CtI l yX4_readThing wsX4_readThing rm_X4_readThing D cI cZ [.ref ht, .ref hp] [(ht, .inr (4, [.ref hb, .int (nI tl), .int (nI cur)])), (hb, .inl (cI, 48, .inl (fun k_ => nI (tx k_)))), (hp, o2 r ti np nq nd), (r 0, .inl (cI, 3, .inl (fun k_ => nI (pu k_)))), (r 1, .inl (cI, 5, .inl (fun k_ => nI (P 0 k_)))), (r 2, .inl (cI, 5, .inl (fun k_ => nI (P 1 k_)))), (r 3, .inl (cI, 5, .inl (fun k_ => nI (P 2 k_)))), (r 4, .inl (cI, 5, .inl (fun k_ => nI (P 3 k_)))), (r 5, .inl (cI, 5, .inl (fun k_ => nI (P 4 k_)))), (r 6, .inl (cI, 5, .inl (fun k_ => nI (P 5 k_))))] (fun (r : Int32) (z : Nat × Nat × Nat × Nat × (Nat → Nat) × (Nat → Nat → Nat)) => match z with | (cur2, np2, nq2, nd2, pu2, P2) => r = bI ((rdT tx tl (cur, np, nq, nd, pu, P)).1 = true) ∧ (cur2, np2, nq2, nd2, pu2, P2) = (rdT tx tl (cur, np, nq, nd, pu, P)).2) (fun (z : Nat × Nat × Nat × Nat × (Nat → Nat) × (Nat → Nat → Nat)) => match z with | (cur2, np2, nq2, nd2, pu2, P2) => [(ht, .inr (4, [.ref hb, .int (nI tl), .int (nI cur2)])), (hb, .inl (cI, 48, .inl (fun k_ => nI (tx k_)))), (hp, o2 r ti np2 nq2 nd2), (r 0, .inl (cI, 3, .inl (fun k_ => nI (pu2 k_)))), (r 1, .inl (cI, 5, .inl (fun k_ => nI (P2 0 k_)))), (r 2, .inl (cI, 5, .inl (fun k_ => nI (P2 1 k_)))), (r 3, .inl (cI, 5, .inl (fun k_ => nI (P2 2 k_)))), (r 4, .inl (cI, 5, .inl (fun k_ => nI (P2 3 k_)))), (r 5, .inl (cI, 5, .inl (fun k_ => nI (P2 4 k_)))), (r 6, .inl (cI, 5, .inl (fun k_ => nI (P2 5 k_))))]) 0 0 := by
  refine g_startI (ret := (some .boolean)) (own := RX4) (lv0 := [(0, .ref ht), (1, .ref hp)]) (by decide) rfl rfl (Nat.le_of_ble_eq_true rfl) rfl ?_
  intro p e s m args below meth cd A Q hin hr hQ hC
  have hcw2 : ∀ w ∈ wsX20, w ∈ wsX4_readThing := fun _ h => List.mem_cons_of_mem _ (List.mem_append_left _ (List.mem_append_right _ h))
  have hcw4 : ∀ w ∈ wsX40, w ∈ wsX4_readThing := fun _ h => List.mem_cons_of_mem _ (List.mem_append_right _ h)
  have w1 := hC.1.2.2.2.2 (.fieldLink "PluckBroker$Text" 28 "PluckBroker$Text" "cursor" "I") (List.mem_of_getElem? (i := 1) rfl)
  have hxc := htx cur
  refine g_aload_n hC 0 dX4_readThing_0 rfl rfl ?_
  refine g_callVip (As := []) (rest := []) hC (nI (tx cur)) (c_X4_upcoming l D cI cZ ht hb tx tl cur (by first | assumption | omega) (by first | assumption | omega)) (cwV 0 hC.1.2.2.2.2 gX4_readThing_X4_upcoming rfl rfl rfl dV_X4_upcoming ⟨Nat.le_of_ble_eq_true rfl, Nat.le_of_ble_eq_true rfl⟩) rfl rfl rfl rfl (Nat.le_of_ble_eq_true rfl) dX4_readThing_1 ⟨Nat.le_of_ble_eq_true rfl, Nat.le_of_ble_eq_true rfl⟩ [0, 1] rfl rfl ?_
  refine g_istore_n (lv' := [(0, .ref ht), (1, .ref hp), (2, .int (nI (tx cur)))]) hC [1, 2, 0] dX4_readThing_4 rfl (by decide) rfl ?_
  refine g_iload_n hC 2 dX4_readThing_5 rfl rfl ?_
  refine g_bipush (v := nI 80) hC dX4_readThing_6 (by decide +kernel) ?_
  refine g_icmp_ne_n (a := (tx cur)) (b := 80) hC (by omega) (by omega) 35 dX4_readThing_8 (by decide) (fun h8t => ?_) (fun h8f => ?_)
  · refine g_iload_n hC 2 dX4_readThing_35 rfl rfl ?_
    refine g_bipush (v := nI 81) hC dX4_readThing_36 (by decide +kernel) ?_
    refine g_icmp_ne_n (a := (tx cur)) (b := 81) hC (by omega) (by omega) 72 dX4_readThing_38 (by decide) (fun h38t => ?_) (fun h38f => ?_)
    · refine g_iload_n hC 2 dX4_readThing_72 rfl rfl ?_
      refine g_bipush (v := nI 68) hC dX4_readThing_73 (by decide +kernel) ?_
      refine g_icmp_ne_n (a := (tx cur)) (b := 68) hC (by omega) (by omega) 109 dX4_readThing_75 (by decide) (fun h75t => ?_) (fun h75f => ?_)
      · refine g_iconst (v := nI 0) hC dX4_readThing_109 rfl ?_
        subst hQ
        refine g_zret (v := nI 0) hC (cur, np, nq, nd, pu, P) hr (by decide +kernel) ?_ rfl dX4_readThing_110
        have e : rdT tx tl (cur, np, nq, nd, pu, P) = (false, cur, np, nq, nd, pu, P) := by
          unfold rdT; dsimp only; rw [if_neg (by omega), if_neg (by omega), if_neg (by omega)]
        rw [e]; exact ⟨(bI_f (by simp)).symm, rfl⟩
      refine g_aload_n hC 1 dX4_readThing_78 rfl rfl ?_
      refine g_getN (C := RX2) (T := TX2) (N := 11) (ci := 2) (v := .int (nI nd)) hC hcw2 2 rfl rfl 10 (by decide) (hC.2.2.1.f 9 rfl) (fun _ h => h) rfl dX4_readThing_79 ?_
      refine g_iconst (v := nI 5) hC dX4_readThing_82 rfl ?_
      refine g_icmp_ge_n (a := nd) (b := 5) hC (by omega) (by omega) 109 dX4_readThing_83 (by decide) (fun h83t => ?_) (fun h83f => ?_)
      · refine g_iconst (v := nI 0) hC dX4_readThing_109 rfl ?_
        subst hQ
        refine g_zret (v := nI 0) hC (cur, np, nq, nd, pu, P) hr (by decide +kernel) ?_ rfl dX4_readThing_110
        have e : rdT tx tl (cur, np, nq, nd, pu, P) = (false, cur, np, nq, nd, pu, P) := by
          unfold rdT; dsimp only; rw [if_neg (by omega), if_neg (by omega), if_neg (by omega)]
        rw [e]; exact ⟨(bI_f (by simp)).symm, rfl⟩
      refine g_aload_n hC 1 dX4_readThing_86 rfl rfl ?_
      refine g_getN (C := RX2) (T := TX2) (N := 11) (ci := 2) (v := .int (nI nq)) hC hcw2 2 rfl rfl 9 (by decide) (hC.2.2.1.f 6 rfl) (fun _ h => h) rfl dX4_readThing_87 ?_
      refine g_if_le_n (a := nq) hC (by omega) 109 dX4_readThing_90 (by decide) (fun h90t => ?_) (fun h90f => ?_)
      · refine g_iconst (v := nI 0) hC dX4_readThing_109 rfl ?_
        subst hQ
        refine g_zret (v := nI 0) hC (cur, np, nq, nd, pu, P) hr (by decide +kernel) ?_ rfl dX4_readThing_110
        have e : rdT tx tl (cur, np, nq, nd, pu, P) = (false, cur, np, nq, nd, pu, P) := by
          unfold rdT; dsimp only; rw [if_neg (by omega), if_neg (by omega), if_neg (by omega)]
        rw [e]; exact ⟨(bI_f (by simp)).symm, rfl⟩
      refine g_aload_n hC 0 dX4_readThing_93 rfl rfl ?_
      refine g_dup hC dX4_readThing_94 rfl ?_
      refine g_get (C := RX4) (T := TX4) (N := 3) (ci := 4) (v := .int (nI cur)) hC hcw4 0 rfl rfl 2 (by decide) w1 (fun _ h => h) rfl dX4_readThing_95 ?_
      refine g_iconst (v := nI 1) hC dX4_readThing_98 rfl ?_
      refine g_iadd_n (a := cur) (b := 1) hC dX4_readThing_99 ?_
      refine g_put (C := RX4) (T := TX4) (N := 3) (ci := 4) (v := .int (nI (cur + 1))) hC hcw4 tyX4 tyX4_ok nmX4 0 rfl rfl 2 (by decide) w1 (fun _ h => h) rfl (tyX4_ok 2 (by decide)) rfl rfl (Nat.le_of_ble_eq_true rfl) [(ht, .inr (4, [.ref hb, .int (nI tl), .int (nI (cur + 1))])), (hb, .inl (cI, 48, .inl (fun k_ => nI (tx k_)))), (hp, o2 r ti np nq nd), (r 0, .inl (cI, 3, .inl (fun k_ => nI (pu k_)))), (r 1, .inl (cI, 5, .inl (fun k_ => nI (P 0 k_)))), (r 2, .inl (cI, 5, .inl (fun k_ => nI (P 1 k_)))), (r 3, .inl (cI, 5, .inl (fun k_ => nI (P 2 k_)))), (r 4, .inl (cI, 5, .inl (fun k_ => nI (P 3 k_)))), (r 5, .inl (cI, 5, .inl (fun k_ => nI (P 4 k_)))), (r 6, .inl (cI, 5, .inl (fun k_ => nI (P 5 k_))))] rfl dX4_readThing_100 ?_
      refine g_aload_n hC 0 dX4_readThing_103 rfl rfl ?_
      refine g_aload_n hC 1 dX4_readThing_104 rfl rfl ?_
      refine g_callVi (As := [.ref hp]) (rest := []) hC (c_X4_readDeed l D cI cZ ht hb tx tl (cur + 1) hp r ti np nq nd pu P (by first | assumption | omega) (by first | assumption | omega) (by first | assumption | omega) (by first | assumption | omega) (by first | assumption | omega) (by first | assumption | omega) (by first | assumption | omega) (by first | assumption | omega)) (cwV 1 hC.1.2.2.2.2 gX4_readThing_X4_readDeed rfl rfl rfl dV_X4_readDeed ⟨Nat.le_of_ble_eq_true rfl, Nat.le_of_ble_eq_true rfl⟩) rfl rfl rfl rfl (Nat.le_of_ble_eq_true rfl) dX4_readThing_105 ⟨Nat.le_of_ble_eq_true rfl, Nat.le_of_ble_eq_true rfl⟩ [0, 1, 2, 3, 4, 5, 6, 7, 8, 9] [] [0, 1, 2, 3, 4, 5, 6, 7, 8, 9] (fun (z : Nat × Nat × Nat × Nat × (Nat → Nat) × (Nat → Nat → Nat)) => match z with | (cur2_1, np2_2, nq2_3, nd2_4, pu2_5, P2_6) => [(ht, .inr (4, [.ref hb, .int (nI tl), .int (nI cur2_1)])), (hb, .inl (cI, 48, .inl (fun k_ => nI (tx k_)))), (hp, o2 r ti np2_2 nq2_3 nd2_4), (r 0, .inl (cI, 3, .inl (fun k_ => nI (pu2_5 k_)))), (r 1, .inl (cI, 5, .inl (fun k_ => nI (P2_6 0 k_)))), (r 2, .inl (cI, 5, .inl (fun k_ => nI (P2_6 1 k_)))), (r 3, .inl (cI, 5, .inl (fun k_ => nI (P2_6 2 k_)))), (r 4, .inl (cI, 5, .inl (fun k_ => nI (P2_6 3 k_)))), (r 5, .inl (cI, 5, .inl (fun k_ => nI (P2_6 4 k_)))), (r 6, .inl (cI, 5, .inl (fun k_ => nI (P2_6 5 k_))))]) rfl rfl rfl (fun _ => rfl) (fun r105 z105 hp105 => ?_)
      obtain ⟨cur2_1, np2_2, nq2_3, nd2_4, pu2_5, P2_6⟩ := z105
      try dsimp only at hp105
      refine g_is (ws2 := [(ht, .inr (4, [.ref hb, .int (nI tl), .int (nI cur2_1)])), (hb, .inl (cI, 48, .inl (fun k_ => nI (tx k_)))), (hp, o2 r ti np2_2 nq2_3 nd2_4), (r 0, .inl (cI, 3, .inl (fun k_ => nI (pu2_5 k_)))), (r 1, .inl (cI, 5, .inl (fun k_ => nI (P2_6 0 k_)))), (r 2, .inl (cI, 5, .inl (fun k_ => nI (P2_6 1 k_)))), (r 3, .inl (cI, 5, .inl (fun k_ => nI (P2_6 2 k_)))), (r 4, .inl (cI, 5, .inl (fun k_ => nI (P2_6 3 k_)))), (r 5, .inl (cI, 5, .inl (fun k_ => nI (P2_6 4 k_)))), (r 6, .inl (cI, 5, .inl (fun k_ => nI (P2_6 5 k_))))]) (lv2 := [(0, .ref ht), (1, .ref hp), (2, .int (nI (tx cur)))]) (st2 := [.int r105]) rfl rfl rfl ?_
      refine g_top (y := bI ((rdD tx tl (cur + 1, np, nq, nd, pu, P)).1 = true)) hp105.1 ?_
      subst hQ
      refine g_zret (v := bI ((rdD tx tl (cur + 1, np, nq, nd, pu, P)).1 = true)) hC (cur2_1, np2_2, nq2_3, nd2_4, pu2_5, P2_6) hr bI_nar ?_ rfl dX4_readThing_108
      first
        | (exfalso; omega)
        | (have e : rdT tx tl (cur, np, nq, nd, pu, P) = rdD tx tl (cur + 1, np, nq, nd, pu, P) := by simp [rdT, *]
           rw [e]; exact ⟨rfl, hp105.2⟩)
    refine g_aload_n hC 1 dX4_readThing_41 rfl rfl ?_
    refine g_getN (C := RX2) (T := TX2) (N := 11) (ci := 2) (v := .int (nI nq)) hC hcw2 2 rfl rfl 9 (by decide) (hC.2.2.1.f 6 rfl) (fun _ h => h) rfl dX4_readThing_42 ?_
    refine g_iconst (v := nI 5) hC dX4_readThing_45 rfl ?_
    refine g_icmp_ge_n (a := nq) (b := 5) hC (by omega) (by omega) 72 dX4_readThing_46 (by decide) (fun h46t => ?_) (fun h46f => ?_)
    · refine g_iload_n hC 2 dX4_readThing_72 rfl rfl ?_
      refine g_bipush (v := nI 68) hC dX4_readThing_73 (by decide +kernel) ?_
      refine g_icmp_ne_n (a := (tx cur)) (b := 68) hC (by omega) (by omega) 109 dX4_readThing_75 (by decide) (fun h75t => ?_) (fun h75f => ?_)
      · refine g_iconst (v := nI 0) hC dX4_readThing_109 rfl ?_
        subst hQ
        refine g_zret (v := nI 0) hC (cur, np, nq, nd, pu, P) hr (by decide +kernel) ?_ rfl dX4_readThing_110
        have e : rdT tx tl (cur, np, nq, nd, pu, P) = (false, cur, np, nq, nd, pu, P) := by
          unfold rdT; dsimp only; rw [if_neg (by omega), if_neg (by omega), if_neg (by omega)]
        rw [e]; exact ⟨(bI_f (by simp)).symm, rfl⟩
      refine g_aload_n hC 1 dX4_readThing_78 rfl rfl ?_
      refine g_getN (C := RX2) (T := TX2) (N := 11) (ci := 2) (v := .int (nI nd)) hC hcw2 2 rfl rfl 10 (by decide) (hC.2.2.1.f 9 rfl) (fun _ h => h) rfl dX4_readThing_79 ?_
      refine g_iconst (v := nI 5) hC dX4_readThing_82 rfl ?_
      refine g_icmp_ge_n (a := nd) (b := 5) hC (by omega) (by omega) 109 dX4_readThing_83 (by decide) (fun h83t => ?_) (fun h83f => ?_)
      · refine g_iconst (v := nI 0) hC dX4_readThing_109 rfl ?_
        subst hQ
        refine g_zret (v := nI 0) hC (cur, np, nq, nd, pu, P) hr (by decide +kernel) ?_ rfl dX4_readThing_110
        have e : rdT tx tl (cur, np, nq, nd, pu, P) = (false, cur, np, nq, nd, pu, P) := by
          unfold rdT; dsimp only; rw [if_neg (by omega), if_neg (by omega), if_neg (by omega)]
        rw [e]; exact ⟨(bI_f (by simp)).symm, rfl⟩
      refine g_aload_n hC 1 dX4_readThing_86 rfl rfl ?_
      refine g_getN (C := RX2) (T := TX2) (N := 11) (ci := 2) (v := .int (nI nq)) hC hcw2 2 rfl rfl 9 (by decide) (hC.2.2.1.f 6 rfl) (fun _ h => h) rfl dX4_readThing_87 ?_
      refine g_if_le_n (a := nq) hC (by omega) 109 dX4_readThing_90 (by decide) (fun h90t => ?_) (fun h90f => ?_)
      · refine g_iconst (v := nI 0) hC dX4_readThing_109 rfl ?_
        subst hQ
        refine g_zret (v := nI 0) hC (cur, np, nq, nd, pu, P) hr (by decide +kernel) ?_ rfl dX4_readThing_110
        have e : rdT tx tl (cur, np, nq, nd, pu, P) = (false, cur, np, nq, nd, pu, P) := by
          unfold rdT; dsimp only; rw [if_neg (by omega), if_neg (by omega), if_neg (by omega)]
        rw [e]; exact ⟨(bI_f (by simp)).symm, rfl⟩
      refine g_aload_n hC 0 dX4_readThing_93 rfl rfl ?_
      refine g_dup hC dX4_readThing_94 rfl ?_
      refine g_get (C := RX4) (T := TX4) (N := 3) (ci := 4) (v := .int (nI cur)) hC hcw4 0 rfl rfl 2 (by decide) w1 (fun _ h => h) rfl dX4_readThing_95 ?_
      refine g_iconst (v := nI 1) hC dX4_readThing_98 rfl ?_
      refine g_iadd_n (a := cur) (b := 1) hC dX4_readThing_99 ?_
      refine g_put (C := RX4) (T := TX4) (N := 3) (ci := 4) (v := .int (nI (cur + 1))) hC hcw4 tyX4 tyX4_ok nmX4 0 rfl rfl 2 (by decide) w1 (fun _ h => h) rfl (tyX4_ok 2 (by decide)) rfl rfl (Nat.le_of_ble_eq_true rfl) [(ht, .inr (4, [.ref hb, .int (nI tl), .int (nI (cur + 1))])), (hb, .inl (cI, 48, .inl (fun k_ => nI (tx k_)))), (hp, o2 r ti np nq nd), (r 0, .inl (cI, 3, .inl (fun k_ => nI (pu k_)))), (r 1, .inl (cI, 5, .inl (fun k_ => nI (P 0 k_)))), (r 2, .inl (cI, 5, .inl (fun k_ => nI (P 1 k_)))), (r 3, .inl (cI, 5, .inl (fun k_ => nI (P 2 k_)))), (r 4, .inl (cI, 5, .inl (fun k_ => nI (P 3 k_)))), (r 5, .inl (cI, 5, .inl (fun k_ => nI (P 4 k_)))), (r 6, .inl (cI, 5, .inl (fun k_ => nI (P 5 k_))))] rfl dX4_readThing_100 ?_
      refine g_aload_n hC 0 dX4_readThing_103 rfl rfl ?_
      refine g_aload_n hC 1 dX4_readThing_104 rfl rfl ?_
      refine g_callVi (As := [.ref hp]) (rest := []) hC (c_X4_readDeed l D cI cZ ht hb tx tl (cur + 1) hp r ti np nq nd pu P (by first | assumption | omega) (by first | assumption | omega) (by first | assumption | omega) (by first | assumption | omega) (by first | assumption | omega) (by first | assumption | omega) (by first | assumption | omega) (by first | assumption | omega)) (cwV 1 hC.1.2.2.2.2 gX4_readThing_X4_readDeed rfl rfl rfl dV_X4_readDeed ⟨Nat.le_of_ble_eq_true rfl, Nat.le_of_ble_eq_true rfl⟩) rfl rfl rfl rfl (Nat.le_of_ble_eq_true rfl) dX4_readThing_105 ⟨Nat.le_of_ble_eq_true rfl, Nat.le_of_ble_eq_true rfl⟩ [0, 1, 2, 3, 4, 5, 6, 7, 8, 9] [] [0, 1, 2, 3, 4, 5, 6, 7, 8, 9] (fun (z : Nat × Nat × Nat × Nat × (Nat → Nat) × (Nat → Nat → Nat)) => match z with | (cur2_7, np2_8, nq2_9, nd2_10, pu2_11, P2_12) => [(ht, .inr (4, [.ref hb, .int (nI tl), .int (nI cur2_7)])), (hb, .inl (cI, 48, .inl (fun k_ => nI (tx k_)))), (hp, o2 r ti np2_8 nq2_9 nd2_10), (r 0, .inl (cI, 3, .inl (fun k_ => nI (pu2_11 k_)))), (r 1, .inl (cI, 5, .inl (fun k_ => nI (P2_12 0 k_)))), (r 2, .inl (cI, 5, .inl (fun k_ => nI (P2_12 1 k_)))), (r 3, .inl (cI, 5, .inl (fun k_ => nI (P2_12 2 k_)))), (r 4, .inl (cI, 5, .inl (fun k_ => nI (P2_12 3 k_)))), (r 5, .inl (cI, 5, .inl (fun k_ => nI (P2_12 4 k_)))), (r 6, .inl (cI, 5, .inl (fun k_ => nI (P2_12 5 k_))))]) rfl rfl rfl (fun _ => rfl) (fun r105 z105 hp105 => ?_)
      obtain ⟨cur2_7, np2_8, nq2_9, nd2_10, pu2_11, P2_12⟩ := z105
      try dsimp only at hp105
      refine g_is (ws2 := [(ht, .inr (4, [.ref hb, .int (nI tl), .int (nI cur2_7)])), (hb, .inl (cI, 48, .inl (fun k_ => nI (tx k_)))), (hp, o2 r ti np2_8 nq2_9 nd2_10), (r 0, .inl (cI, 3, .inl (fun k_ => nI (pu2_11 k_)))), (r 1, .inl (cI, 5, .inl (fun k_ => nI (P2_12 0 k_)))), (r 2, .inl (cI, 5, .inl (fun k_ => nI (P2_12 1 k_)))), (r 3, .inl (cI, 5, .inl (fun k_ => nI (P2_12 2 k_)))), (r 4, .inl (cI, 5, .inl (fun k_ => nI (P2_12 3 k_)))), (r 5, .inl (cI, 5, .inl (fun k_ => nI (P2_12 4 k_)))), (r 6, .inl (cI, 5, .inl (fun k_ => nI (P2_12 5 k_))))]) (lv2 := [(0, .ref ht), (1, .ref hp), (2, .int (nI (tx cur)))]) (st2 := [.int r105]) rfl rfl rfl ?_
      refine g_top (y := bI ((rdD tx tl (cur + 1, np, nq, nd, pu, P)).1 = true)) hp105.1 ?_
      subst hQ
      refine g_zret (v := bI ((rdD tx tl (cur + 1, np, nq, nd, pu, P)).1 = true)) hC (cur2_7, np2_8, nq2_9, nd2_10, pu2_11, P2_12) hr bI_nar ?_ rfl dX4_readThing_108
      first
        | (exfalso; omega)
        | (have e : rdT tx tl (cur, np, nq, nd, pu, P) = rdD tx tl (cur + 1, np, nq, nd, pu, P) := by simp [rdT, *]
           rw [e]; exact ⟨rfl, hp105.2⟩)
    refine g_aload_n hC 1 dX4_readThing_49 rfl rfl ?_
    refine g_getN (C := RX2) (T := TX2) (N := 11) (ci := 2) (v := .int (nI np)) hC hcw2 2 rfl rfl 8 (by decide) (hC.2.2.1.f 4 rfl) (fun _ h => h) rfl dX4_readThing_50 ?_
    refine g_if_le_n (a := np) hC (by omega) 72 dX4_readThing_53 (by decide) (fun h53t => ?_) (fun h53f => ?_)
    · refine g_iload_n hC 2 dX4_readThing_72 rfl rfl ?_
      refine g_bipush (v := nI 68) hC dX4_readThing_73 (by decide +kernel) ?_
      refine g_icmp_ne_n (a := (tx cur)) (b := 68) hC (by omega) (by omega) 109 dX4_readThing_75 (by decide) (fun h75t => ?_) (fun h75f => ?_)
      · refine g_iconst (v := nI 0) hC dX4_readThing_109 rfl ?_
        subst hQ
        refine g_zret (v := nI 0) hC (cur, np, nq, nd, pu, P) hr (by decide +kernel) ?_ rfl dX4_readThing_110
        have e : rdT tx tl (cur, np, nq, nd, pu, P) = (false, cur, np, nq, nd, pu, P) := by
          unfold rdT; dsimp only; rw [if_neg (by omega), if_neg (by omega), if_neg (by omega)]
        rw [e]; exact ⟨(bI_f (by simp)).symm, rfl⟩
      refine g_aload_n hC 1 dX4_readThing_78 rfl rfl ?_
      refine g_getN (C := RX2) (T := TX2) (N := 11) (ci := 2) (v := .int (nI nd)) hC hcw2 2 rfl rfl 10 (by decide) (hC.2.2.1.f 9 rfl) (fun _ h => h) rfl dX4_readThing_79 ?_
      refine g_iconst (v := nI 5) hC dX4_readThing_82 rfl ?_
      refine g_icmp_ge_n (a := nd) (b := 5) hC (by omega) (by omega) 109 dX4_readThing_83 (by decide) (fun h83t => ?_) (fun h83f => ?_)
      · refine g_iconst (v := nI 0) hC dX4_readThing_109 rfl ?_
        subst hQ
        refine g_zret (v := nI 0) hC (cur, np, nq, nd, pu, P) hr (by decide +kernel) ?_ rfl dX4_readThing_110
        have e : rdT tx tl (cur, np, nq, nd, pu, P) = (false, cur, np, nq, nd, pu, P) := by
          unfold rdT; dsimp only; rw [if_neg (by omega), if_neg (by omega), if_neg (by omega)]
        rw [e]; exact ⟨(bI_f (by simp)).symm, rfl⟩
      refine g_aload_n hC 1 dX4_readThing_86 rfl rfl ?_
      refine g_getN (C := RX2) (T := TX2) (N := 11) (ci := 2) (v := .int (nI nq)) hC hcw2 2 rfl rfl 9 (by decide) (hC.2.2.1.f 6 rfl) (fun _ h => h) rfl dX4_readThing_87 ?_
      refine g_if_le_n (a := nq) hC (by omega) 109 dX4_readThing_90 (by decide) (fun h90t => ?_) (fun h90f => ?_)
      · refine g_iconst (v := nI 0) hC dX4_readThing_109 rfl ?_
        subst hQ
        refine g_zret (v := nI 0) hC (cur, np, nq, nd, pu, P) hr (by decide +kernel) ?_ rfl dX4_readThing_110
        have e : rdT tx tl (cur, np, nq, nd, pu, P) = (false, cur, np, nq, nd, pu, P) := by
          unfold rdT; dsimp only; rw [if_neg (by omega), if_neg (by omega), if_neg (by omega)]
        rw [e]; exact ⟨(bI_f (by simp)).symm, rfl⟩
      refine g_aload_n hC 0 dX4_readThing_93 rfl rfl ?_
      refine g_dup hC dX4_readThing_94 rfl ?_
      refine g_get (C := RX4) (T := TX4) (N := 3) (ci := 4) (v := .int (nI cur)) hC hcw4 0 rfl rfl 2 (by decide) w1 (fun _ h => h) rfl dX4_readThing_95 ?_
      refine g_iconst (v := nI 1) hC dX4_readThing_98 rfl ?_
      refine g_iadd_n (a := cur) (b := 1) hC dX4_readThing_99 ?_
      refine g_put (C := RX4) (T := TX4) (N := 3) (ci := 4) (v := .int (nI (cur + 1))) hC hcw4 tyX4 tyX4_ok nmX4 0 rfl rfl 2 (by decide) w1 (fun _ h => h) rfl (tyX4_ok 2 (by decide)) rfl rfl (Nat.le_of_ble_eq_true rfl) [(ht, .inr (4, [.ref hb, .int (nI tl), .int (nI (cur + 1))])), (hb, .inl (cI, 48, .inl (fun k_ => nI (tx k_)))), (hp, o2 r ti np nq nd), (r 0, .inl (cI, 3, .inl (fun k_ => nI (pu k_)))), (r 1, .inl (cI, 5, .inl (fun k_ => nI (P 0 k_)))), (r 2, .inl (cI, 5, .inl (fun k_ => nI (P 1 k_)))), (r 3, .inl (cI, 5, .inl (fun k_ => nI (P 2 k_)))), (r 4, .inl (cI, 5, .inl (fun k_ => nI (P 3 k_)))), (r 5, .inl (cI, 5, .inl (fun k_ => nI (P 4 k_)))), (r 6, .inl (cI, 5, .inl (fun k_ => nI (P 5 k_))))] rfl dX4_readThing_100 ?_
      refine g_aload_n hC 0 dX4_readThing_103 rfl rfl ?_
      refine g_aload_n hC 1 dX4_readThing_104 rfl rfl ?_
      refine g_callVi (As := [.ref hp]) (rest := []) hC (c_X4_readDeed l D cI cZ ht hb tx tl (cur + 1) hp r ti np nq nd pu P (by first | assumption | omega) (by first | assumption | omega) (by first | assumption | omega) (by first | assumption | omega) (by first | assumption | omega) (by first | assumption | omega) (by first | assumption | omega) (by first | assumption | omega)) (cwV 1 hC.1.2.2.2.2 gX4_readThing_X4_readDeed rfl rfl rfl dV_X4_readDeed ⟨Nat.le_of_ble_eq_true rfl, Nat.le_of_ble_eq_true rfl⟩) rfl rfl rfl rfl (Nat.le_of_ble_eq_true rfl) dX4_readThing_105 ⟨Nat.le_of_ble_eq_true rfl, Nat.le_of_ble_eq_true rfl⟩ [0, 1, 2, 3, 4, 5, 6, 7, 8, 9] [] [0, 1, 2, 3, 4, 5, 6, 7, 8, 9] (fun (z : Nat × Nat × Nat × Nat × (Nat → Nat) × (Nat → Nat → Nat)) => match z with | (cur2_13, np2_14, nq2_15, nd2_16, pu2_17, P2_18) => [(ht, .inr (4, [.ref hb, .int (nI tl), .int (nI cur2_13)])), (hb, .inl (cI, 48, .inl (fun k_ => nI (tx k_)))), (hp, o2 r ti np2_14 nq2_15 nd2_16), (r 0, .inl (cI, 3, .inl (fun k_ => nI (pu2_17 k_)))), (r 1, .inl (cI, 5, .inl (fun k_ => nI (P2_18 0 k_)))), (r 2, .inl (cI, 5, .inl (fun k_ => nI (P2_18 1 k_)))), (r 3, .inl (cI, 5, .inl (fun k_ => nI (P2_18 2 k_)))), (r 4, .inl (cI, 5, .inl (fun k_ => nI (P2_18 3 k_)))), (r 5, .inl (cI, 5, .inl (fun k_ => nI (P2_18 4 k_)))), (r 6, .inl (cI, 5, .inl (fun k_ => nI (P2_18 5 k_))))]) rfl rfl rfl (fun _ => rfl) (fun r105 z105 hp105 => ?_)
      obtain ⟨cur2_13, np2_14, nq2_15, nd2_16, pu2_17, P2_18⟩ := z105
      try dsimp only at hp105
      refine g_is (ws2 := [(ht, .inr (4, [.ref hb, .int (nI tl), .int (nI cur2_13)])), (hb, .inl (cI, 48, .inl (fun k_ => nI (tx k_)))), (hp, o2 r ti np2_14 nq2_15 nd2_16), (r 0, .inl (cI, 3, .inl (fun k_ => nI (pu2_17 k_)))), (r 1, .inl (cI, 5, .inl (fun k_ => nI (P2_18 0 k_)))), (r 2, .inl (cI, 5, .inl (fun k_ => nI (P2_18 1 k_)))), (r 3, .inl (cI, 5, .inl (fun k_ => nI (P2_18 2 k_)))), (r 4, .inl (cI, 5, .inl (fun k_ => nI (P2_18 3 k_)))), (r 5, .inl (cI, 5, .inl (fun k_ => nI (P2_18 4 k_)))), (r 6, .inl (cI, 5, .inl (fun k_ => nI (P2_18 5 k_))))]) (lv2 := [(0, .ref ht), (1, .ref hp), (2, .int (nI (tx cur)))]) (st2 := [.int r105]) rfl rfl rfl ?_
      refine g_top (y := bI ((rdD tx tl (cur + 1, np, nq, nd, pu, P)).1 = true)) hp105.1 ?_
      subst hQ
      refine g_zret (v := bI ((rdD tx tl (cur + 1, np, nq, nd, pu, P)).1 = true)) hC (cur2_13, np2_14, nq2_15, nd2_16, pu2_17, P2_18) hr bI_nar ?_ rfl dX4_readThing_108
      first
        | (exfalso; omega)
        | (have e : rdT tx tl (cur, np, nq, nd, pu, P) = rdD tx tl (cur + 1, np, nq, nd, pu, P) := by simp [rdT, *]
           rw [e]; exact ⟨rfl, hp105.2⟩)
    refine g_aload_n hC 0 dX4_readThing_56 rfl rfl ?_
    refine g_dup hC dX4_readThing_57 rfl ?_
    refine g_get (C := RX4) (T := TX4) (N := 3) (ci := 4) (v := .int (nI cur)) hC hcw4 0 rfl rfl 2 (by decide) w1 (fun _ h => h) rfl dX4_readThing_58 ?_
    refine g_iconst (v := nI 1) hC dX4_readThing_61 rfl ?_
    refine g_iadd_n (a := cur) (b := 1) hC dX4_readThing_62 ?_
    refine g_put (C := RX4) (T := TX4) (N := 3) (ci := 4) (v := .int (nI (cur + 1))) hC hcw4 tyX4 tyX4_ok nmX4 0 rfl rfl 2 (by decide) w1 (fun _ h => h) rfl (tyX4_ok 2 (by decide)) rfl rfl (Nat.le_of_ble_eq_true rfl) [(ht, .inr (4, [.ref hb, .int (nI tl), .int (nI (cur + 1))])), (hb, .inl (cI, 48, .inl (fun k_ => nI (tx k_)))), (hp, o2 r ti np nq nd), (r 0, .inl (cI, 3, .inl (fun k_ => nI (pu k_)))), (r 1, .inl (cI, 5, .inl (fun k_ => nI (P 0 k_)))), (r 2, .inl (cI, 5, .inl (fun k_ => nI (P 1 k_)))), (r 3, .inl (cI, 5, .inl (fun k_ => nI (P 2 k_)))), (r 4, .inl (cI, 5, .inl (fun k_ => nI (P 3 k_)))), (r 5, .inl (cI, 5, .inl (fun k_ => nI (P 4 k_)))), (r 6, .inl (cI, 5, .inl (fun k_ => nI (P 5 k_))))] rfl dX4_readThing_63 ?_
    refine g_aload_n hC 0 dX4_readThing_66 rfl rfl ?_
    refine g_aload_n hC 1 dX4_readThing_67 rfl rfl ?_
    refine g_callVi (As := [.ref hp]) (rest := []) hC (c_X4_readQuality l D cI cZ ht hb tx tl (cur + 1) hp r ti np nq nd pu P (by first | assumption | omega) (by first | assumption | omega) (by first | assumption | omega) (by first | assumption | omega) (by first | assumption | omega) (by first | assumption | omega) (by first | assumption | omega) (by first | assumption | omega)) (cwV 1 hC.1.2.2.2.2 gX4_readThing_X4_readQuality rfl rfl rfl dV_X4_readQuality ⟨Nat.le_of_ble_eq_true rfl, Nat.le_of_ble_eq_true rfl⟩) rfl rfl rfl rfl (Nat.le_of_ble_eq_true rfl) dX4_readThing_68 ⟨Nat.le_of_ble_eq_true rfl, Nat.le_of_ble_eq_true rfl⟩ [0, 1, 2, 3, 4, 5, 6, 7, 8, 9] [] [0, 1, 2, 3, 4, 5, 6, 7, 8, 9] (fun (z : Nat × Nat × Nat × Nat × (Nat → Nat) × (Nat → Nat → Nat)) => match z with | (cur2_19, np2_20, nq2_21, nd2_22, pu2_23, P2_24) => [(ht, .inr (4, [.ref hb, .int (nI tl), .int (nI cur2_19)])), (hb, .inl (cI, 48, .inl (fun k_ => nI (tx k_)))), (hp, o2 r ti np2_20 nq2_21 nd2_22), (r 0, .inl (cI, 3, .inl (fun k_ => nI (pu2_23 k_)))), (r 1, .inl (cI, 5, .inl (fun k_ => nI (P2_24 0 k_)))), (r 2, .inl (cI, 5, .inl (fun k_ => nI (P2_24 1 k_)))), (r 3, .inl (cI, 5, .inl (fun k_ => nI (P2_24 2 k_)))), (r 4, .inl (cI, 5, .inl (fun k_ => nI (P2_24 3 k_)))), (r 5, .inl (cI, 5, .inl (fun k_ => nI (P2_24 4 k_)))), (r 6, .inl (cI, 5, .inl (fun k_ => nI (P2_24 5 k_))))]) rfl rfl rfl (fun _ => rfl) (fun r68 z68 hp68 => ?_)
    obtain ⟨cur2_19, np2_20, nq2_21, nd2_22, pu2_23, P2_24⟩ := z68
    try dsimp only at hp68
    refine g_is (ws2 := [(ht, .inr (4, [.ref hb, .int (nI tl), .int (nI cur2_19)])), (hb, .inl (cI, 48, .inl (fun k_ => nI (tx k_)))), (hp, o2 r ti np2_20 nq2_21 nd2_22), (r 0, .inl (cI, 3, .inl (fun k_ => nI (pu2_23 k_)))), (r 1, .inl (cI, 5, .inl (fun k_ => nI (P2_24 0 k_)))), (r 2, .inl (cI, 5, .inl (fun k_ => nI (P2_24 1 k_)))), (r 3, .inl (cI, 5, .inl (fun k_ => nI (P2_24 2 k_)))), (r 4, .inl (cI, 5, .inl (fun k_ => nI (P2_24 3 k_)))), (r 5, .inl (cI, 5, .inl (fun k_ => nI (P2_24 4 k_)))), (r 6, .inl (cI, 5, .inl (fun k_ => nI (P2_24 5 k_))))]) (lv2 := [(0, .ref ht), (1, .ref hp), (2, .int (nI (tx cur)))]) (st2 := [.int r68]) rfl rfl rfl ?_
    refine g_top (y := bI ((rdQ tx tl (cur + 1, np, nq, nd, pu, P)).1 = true)) hp68.1 ?_
    subst hQ
    refine g_zret (v := bI ((rdQ tx tl (cur + 1, np, nq, nd, pu, P)).1 = true)) hC (cur2_19, np2_20, nq2_21, nd2_22, pu2_23, P2_24) hr bI_nar ?_ rfl dX4_readThing_71
    first
      | (exfalso; omega)
      | (have e : rdT tx tl (cur, np, nq, nd, pu, P) = rdQ tx tl (cur + 1, np, nq, nd, pu, P) := by simp [rdT, *]
         rw [e]; exact ⟨rfl, hp68.2⟩)
  refine g_aload_n hC 1 dX4_readThing_11 rfl rfl ?_
  refine g_getN (C := RX2) (T := TX2) (N := 11) (ci := 2) (v := .int (nI np)) hC hcw2 2 rfl rfl 8 (by decide) (hC.2.2.1.f 4 rfl) (fun _ h => h) rfl dX4_readThing_12 ?_
  refine g_iconst (v := nI 3) hC dX4_readThing_15 rfl ?_
  refine g_icmp_ge_n (a := np) (b := 3) hC (by omega) (by omega) 35 dX4_readThing_16 (by decide) (fun h16t => ?_) (fun h16f => ?_)
  · refine g_iload_n hC 2 dX4_readThing_35 rfl rfl ?_
    refine g_bipush (v := nI 81) hC dX4_readThing_36 (by decide +kernel) ?_
    refine g_icmp_ne_n (a := (tx cur)) (b := 81) hC (by omega) (by omega) 72 dX4_readThing_38 (by decide) (fun h38t => ?_) (fun h38f => ?_)
    · refine g_iload_n hC 2 dX4_readThing_72 rfl rfl ?_
      refine g_bipush (v := nI 68) hC dX4_readThing_73 (by decide +kernel) ?_
      refine g_icmp_ne_n (a := (tx cur)) (b := 68) hC (by omega) (by omega) 109 dX4_readThing_75 (by decide) (fun h75t => ?_) (fun h75f => ?_)
      · refine g_iconst (v := nI 0) hC dX4_readThing_109 rfl ?_
        subst hQ
        refine g_zret (v := nI 0) hC (cur, np, nq, nd, pu, P) hr (by decide +kernel) ?_ rfl dX4_readThing_110
        have e : rdT tx tl (cur, np, nq, nd, pu, P) = (false, cur, np, nq, nd, pu, P) := by
          unfold rdT; dsimp only; rw [if_neg (by omega), if_neg (by omega), if_neg (by omega)]
        rw [e]; exact ⟨(bI_f (by simp)).symm, rfl⟩
      refine g_aload_n hC 1 dX4_readThing_78 rfl rfl ?_
      refine g_getN (C := RX2) (T := TX2) (N := 11) (ci := 2) (v := .int (nI nd)) hC hcw2 2 rfl rfl 10 (by decide) (hC.2.2.1.f 9 rfl) (fun _ h => h) rfl dX4_readThing_79 ?_
      refine g_iconst (v := nI 5) hC dX4_readThing_82 rfl ?_
      refine g_icmp_ge_n (a := nd) (b := 5) hC (by omega) (by omega) 109 dX4_readThing_83 (by decide) (fun h83t => ?_) (fun h83f => ?_)
      · refine g_iconst (v := nI 0) hC dX4_readThing_109 rfl ?_
        subst hQ
        refine g_zret (v := nI 0) hC (cur, np, nq, nd, pu, P) hr (by decide +kernel) ?_ rfl dX4_readThing_110
        have e : rdT tx tl (cur, np, nq, nd, pu, P) = (false, cur, np, nq, nd, pu, P) := by
          unfold rdT; dsimp only; rw [if_neg (by omega), if_neg (by omega), if_neg (by omega)]
        rw [e]; exact ⟨(bI_f (by simp)).symm, rfl⟩
      refine g_aload_n hC 1 dX4_readThing_86 rfl rfl ?_
      refine g_getN (C := RX2) (T := TX2) (N := 11) (ci := 2) (v := .int (nI nq)) hC hcw2 2 rfl rfl 9 (by decide) (hC.2.2.1.f 6 rfl) (fun _ h => h) rfl dX4_readThing_87 ?_
      refine g_if_le_n (a := nq) hC (by omega) 109 dX4_readThing_90 (by decide) (fun h90t => ?_) (fun h90f => ?_)
      · refine g_iconst (v := nI 0) hC dX4_readThing_109 rfl ?_
        subst hQ
        refine g_zret (v := nI 0) hC (cur, np, nq, nd, pu, P) hr (by decide +kernel) ?_ rfl dX4_readThing_110
        have e : rdT tx tl (cur, np, nq, nd, pu, P) = (false, cur, np, nq, nd, pu, P) := by
          unfold rdT; dsimp only; rw [if_neg (by omega), if_neg (by omega), if_neg (by omega)]
        rw [e]; exact ⟨(bI_f (by simp)).symm, rfl⟩
      refine g_aload_n hC 0 dX4_readThing_93 rfl rfl ?_
      refine g_dup hC dX4_readThing_94 rfl ?_
      refine g_get (C := RX4) (T := TX4) (N := 3) (ci := 4) (v := .int (nI cur)) hC hcw4 0 rfl rfl 2 (by decide) w1 (fun _ h => h) rfl dX4_readThing_95 ?_
      refine g_iconst (v := nI 1) hC dX4_readThing_98 rfl ?_
      refine g_iadd_n (a := cur) (b := 1) hC dX4_readThing_99 ?_
      refine g_put (C := RX4) (T := TX4) (N := 3) (ci := 4) (v := .int (nI (cur + 1))) hC hcw4 tyX4 tyX4_ok nmX4 0 rfl rfl 2 (by decide) w1 (fun _ h => h) rfl (tyX4_ok 2 (by decide)) rfl rfl (Nat.le_of_ble_eq_true rfl) [(ht, .inr (4, [.ref hb, .int (nI tl), .int (nI (cur + 1))])), (hb, .inl (cI, 48, .inl (fun k_ => nI (tx k_)))), (hp, o2 r ti np nq nd), (r 0, .inl (cI, 3, .inl (fun k_ => nI (pu k_)))), (r 1, .inl (cI, 5, .inl (fun k_ => nI (P 0 k_)))), (r 2, .inl (cI, 5, .inl (fun k_ => nI (P 1 k_)))), (r 3, .inl (cI, 5, .inl (fun k_ => nI (P 2 k_)))), (r 4, .inl (cI, 5, .inl (fun k_ => nI (P 3 k_)))), (r 5, .inl (cI, 5, .inl (fun k_ => nI (P 4 k_)))), (r 6, .inl (cI, 5, .inl (fun k_ => nI (P 5 k_))))] rfl dX4_readThing_100 ?_
      refine g_aload_n hC 0 dX4_readThing_103 rfl rfl ?_
      refine g_aload_n hC 1 dX4_readThing_104 rfl rfl ?_
      refine g_callVi (As := [.ref hp]) (rest := []) hC (c_X4_readDeed l D cI cZ ht hb tx tl (cur + 1) hp r ti np nq nd pu P (by first | assumption | omega) (by first | assumption | omega) (by first | assumption | omega) (by first | assumption | omega) (by first | assumption | omega) (by first | assumption | omega) (by first | assumption | omega) (by first | assumption | omega)) (cwV 1 hC.1.2.2.2.2 gX4_readThing_X4_readDeed rfl rfl rfl dV_X4_readDeed ⟨Nat.le_of_ble_eq_true rfl, Nat.le_of_ble_eq_true rfl⟩) rfl rfl rfl rfl (Nat.le_of_ble_eq_true rfl) dX4_readThing_105 ⟨Nat.le_of_ble_eq_true rfl, Nat.le_of_ble_eq_true rfl⟩ [0, 1, 2, 3, 4, 5, 6, 7, 8, 9] [] [0, 1, 2, 3, 4, 5, 6, 7, 8, 9] (fun (z : Nat × Nat × Nat × Nat × (Nat → Nat) × (Nat → Nat → Nat)) => match z with | (cur2_25, np2_26, nq2_27, nd2_28, pu2_29, P2_30) => [(ht, .inr (4, [.ref hb, .int (nI tl), .int (nI cur2_25)])), (hb, .inl (cI, 48, .inl (fun k_ => nI (tx k_)))), (hp, o2 r ti np2_26 nq2_27 nd2_28), (r 0, .inl (cI, 3, .inl (fun k_ => nI (pu2_29 k_)))), (r 1, .inl (cI, 5, .inl (fun k_ => nI (P2_30 0 k_)))), (r 2, .inl (cI, 5, .inl (fun k_ => nI (P2_30 1 k_)))), (r 3, .inl (cI, 5, .inl (fun k_ => nI (P2_30 2 k_)))), (r 4, .inl (cI, 5, .inl (fun k_ => nI (P2_30 3 k_)))), (r 5, .inl (cI, 5, .inl (fun k_ => nI (P2_30 4 k_)))), (r 6, .inl (cI, 5, .inl (fun k_ => nI (P2_30 5 k_))))]) rfl rfl rfl (fun _ => rfl) (fun r105 z105 hp105 => ?_)
      obtain ⟨cur2_25, np2_26, nq2_27, nd2_28, pu2_29, P2_30⟩ := z105
      try dsimp only at hp105
      refine g_is (ws2 := [(ht, .inr (4, [.ref hb, .int (nI tl), .int (nI cur2_25)])), (hb, .inl (cI, 48, .inl (fun k_ => nI (tx k_)))), (hp, o2 r ti np2_26 nq2_27 nd2_28), (r 0, .inl (cI, 3, .inl (fun k_ => nI (pu2_29 k_)))), (r 1, .inl (cI, 5, .inl (fun k_ => nI (P2_30 0 k_)))), (r 2, .inl (cI, 5, .inl (fun k_ => nI (P2_30 1 k_)))), (r 3, .inl (cI, 5, .inl (fun k_ => nI (P2_30 2 k_)))), (r 4, .inl (cI, 5, .inl (fun k_ => nI (P2_30 3 k_)))), (r 5, .inl (cI, 5, .inl (fun k_ => nI (P2_30 4 k_)))), (r 6, .inl (cI, 5, .inl (fun k_ => nI (P2_30 5 k_))))]) (lv2 := [(0, .ref ht), (1, .ref hp), (2, .int (nI (tx cur)))]) (st2 := [.int r105]) rfl rfl rfl ?_
      refine g_top (y := bI ((rdD tx tl (cur + 1, np, nq, nd, pu, P)).1 = true)) hp105.1 ?_
      subst hQ
      refine g_zret (v := bI ((rdD tx tl (cur + 1, np, nq, nd, pu, P)).1 = true)) hC (cur2_25, np2_26, nq2_27, nd2_28, pu2_29, P2_30) hr bI_nar ?_ rfl dX4_readThing_108
      first
        | (exfalso; omega)
        | (have e : rdT tx tl (cur, np, nq, nd, pu, P) = rdD tx tl (cur + 1, np, nq, nd, pu, P) := by simp [rdT, *]
           rw [e]; exact ⟨rfl, hp105.2⟩)
    refine g_aload_n hC 1 dX4_readThing_41 rfl rfl ?_
    refine g_getN (C := RX2) (T := TX2) (N := 11) (ci := 2) (v := .int (nI nq)) hC hcw2 2 rfl rfl 9 (by decide) (hC.2.2.1.f 6 rfl) (fun _ h => h) rfl dX4_readThing_42 ?_
    refine g_iconst (v := nI 5) hC dX4_readThing_45 rfl ?_
    refine g_icmp_ge_n (a := nq) (b := 5) hC (by omega) (by omega) 72 dX4_readThing_46 (by decide) (fun h46t => ?_) (fun h46f => ?_)
    · refine g_iload_n hC 2 dX4_readThing_72 rfl rfl ?_
      refine g_bipush (v := nI 68) hC dX4_readThing_73 (by decide +kernel) ?_
      refine g_icmp_ne_n (a := (tx cur)) (b := 68) hC (by omega) (by omega) 109 dX4_readThing_75 (by decide) (fun h75t => ?_) (fun h75f => ?_)
      · refine g_iconst (v := nI 0) hC dX4_readThing_109 rfl ?_
        subst hQ
        refine g_zret (v := nI 0) hC (cur, np, nq, nd, pu, P) hr (by decide +kernel) ?_ rfl dX4_readThing_110
        have e : rdT tx tl (cur, np, nq, nd, pu, P) = (false, cur, np, nq, nd, pu, P) := by
          unfold rdT; dsimp only; rw [if_neg (by omega), if_neg (by omega), if_neg (by omega)]
        rw [e]; exact ⟨(bI_f (by simp)).symm, rfl⟩
      refine g_aload_n hC 1 dX4_readThing_78 rfl rfl ?_
      refine g_getN (C := RX2) (T := TX2) (N := 11) (ci := 2) (v := .int (nI nd)) hC hcw2 2 rfl rfl 10 (by decide) (hC.2.2.1.f 9 rfl) (fun _ h => h) rfl dX4_readThing_79 ?_
      refine g_iconst (v := nI 5) hC dX4_readThing_82 rfl ?_
      refine g_icmp_ge_n (a := nd) (b := 5) hC (by omega) (by omega) 109 dX4_readThing_83 (by decide) (fun h83t => ?_) (fun h83f => ?_)
      · refine g_iconst (v := nI 0) hC dX4_readThing_109 rfl ?_
        subst hQ
        refine g_zret (v := nI 0) hC (cur, np, nq, nd, pu, P) hr (by decide +kernel) ?_ rfl dX4_readThing_110
        have e : rdT tx tl (cur, np, nq, nd, pu, P) = (false, cur, np, nq, nd, pu, P) := by
          unfold rdT; dsimp only; rw [if_neg (by omega), if_neg (by omega), if_neg (by omega)]
        rw [e]; exact ⟨(bI_f (by simp)).symm, rfl⟩
      refine g_aload_n hC 1 dX4_readThing_86 rfl rfl ?_
      refine g_getN (C := RX2) (T := TX2) (N := 11) (ci := 2) (v := .int (nI nq)) hC hcw2 2 rfl rfl 9 (by decide) (hC.2.2.1.f 6 rfl) (fun _ h => h) rfl dX4_readThing_87 ?_
      refine g_if_le_n (a := nq) hC (by omega) 109 dX4_readThing_90 (by decide) (fun h90t => ?_) (fun h90f => ?_)
      · refine g_iconst (v := nI 0) hC dX4_readThing_109 rfl ?_
        subst hQ
        refine g_zret (v := nI 0) hC (cur, np, nq, nd, pu, P) hr (by decide +kernel) ?_ rfl dX4_readThing_110
        have e : rdT tx tl (cur, np, nq, nd, pu, P) = (false, cur, np, nq, nd, pu, P) := by
          unfold rdT; dsimp only; rw [if_neg (by omega), if_neg (by omega), if_neg (by omega)]
        rw [e]; exact ⟨(bI_f (by simp)).symm, rfl⟩
      refine g_aload_n hC 0 dX4_readThing_93 rfl rfl ?_
      refine g_dup hC dX4_readThing_94 rfl ?_
      refine g_get (C := RX4) (T := TX4) (N := 3) (ci := 4) (v := .int (nI cur)) hC hcw4 0 rfl rfl 2 (by decide) w1 (fun _ h => h) rfl dX4_readThing_95 ?_
      refine g_iconst (v := nI 1) hC dX4_readThing_98 rfl ?_
      refine g_iadd_n (a := cur) (b := 1) hC dX4_readThing_99 ?_
      refine g_put (C := RX4) (T := TX4) (N := 3) (ci := 4) (v := .int (nI (cur + 1))) hC hcw4 tyX4 tyX4_ok nmX4 0 rfl rfl 2 (by decide) w1 (fun _ h => h) rfl (tyX4_ok 2 (by decide)) rfl rfl (Nat.le_of_ble_eq_true rfl) [(ht, .inr (4, [.ref hb, .int (nI tl), .int (nI (cur + 1))])), (hb, .inl (cI, 48, .inl (fun k_ => nI (tx k_)))), (hp, o2 r ti np nq nd), (r 0, .inl (cI, 3, .inl (fun k_ => nI (pu k_)))), (r 1, .inl (cI, 5, .inl (fun k_ => nI (P 0 k_)))), (r 2, .inl (cI, 5, .inl (fun k_ => nI (P 1 k_)))), (r 3, .inl (cI, 5, .inl (fun k_ => nI (P 2 k_)))), (r 4, .inl (cI, 5, .inl (fun k_ => nI (P 3 k_)))), (r 5, .inl (cI, 5, .inl (fun k_ => nI (P 4 k_)))), (r 6, .inl (cI, 5, .inl (fun k_ => nI (P 5 k_))))] rfl dX4_readThing_100 ?_
      refine g_aload_n hC 0 dX4_readThing_103 rfl rfl ?_
      refine g_aload_n hC 1 dX4_readThing_104 rfl rfl ?_
      refine g_callVi (As := [.ref hp]) (rest := []) hC (c_X4_readDeed l D cI cZ ht hb tx tl (cur + 1) hp r ti np nq nd pu P (by first | assumption | omega) (by first | assumption | omega) (by first | assumption | omega) (by first | assumption | omega) (by first | assumption | omega) (by first | assumption | omega) (by first | assumption | omega) (by first | assumption | omega)) (cwV 1 hC.1.2.2.2.2 gX4_readThing_X4_readDeed rfl rfl rfl dV_X4_readDeed ⟨Nat.le_of_ble_eq_true rfl, Nat.le_of_ble_eq_true rfl⟩) rfl rfl rfl rfl (Nat.le_of_ble_eq_true rfl) dX4_readThing_105 ⟨Nat.le_of_ble_eq_true rfl, Nat.le_of_ble_eq_true rfl⟩ [0, 1, 2, 3, 4, 5, 6, 7, 8, 9] [] [0, 1, 2, 3, 4, 5, 6, 7, 8, 9] (fun (z : Nat × Nat × Nat × Nat × (Nat → Nat) × (Nat → Nat → Nat)) => match z with | (cur2_31, np2_32, nq2_33, nd2_34, pu2_35, P2_36) => [(ht, .inr (4, [.ref hb, .int (nI tl), .int (nI cur2_31)])), (hb, .inl (cI, 48, .inl (fun k_ => nI (tx k_)))), (hp, o2 r ti np2_32 nq2_33 nd2_34), (r 0, .inl (cI, 3, .inl (fun k_ => nI (pu2_35 k_)))), (r 1, .inl (cI, 5, .inl (fun k_ => nI (P2_36 0 k_)))), (r 2, .inl (cI, 5, .inl (fun k_ => nI (P2_36 1 k_)))), (r 3, .inl (cI, 5, .inl (fun k_ => nI (P2_36 2 k_)))), (r 4, .inl (cI, 5, .inl (fun k_ => nI (P2_36 3 k_)))), (r 5, .inl (cI, 5, .inl (fun k_ => nI (P2_36 4 k_)))), (r 6, .inl (cI, 5, .inl (fun k_ => nI (P2_36 5 k_))))]) rfl rfl rfl (fun _ => rfl) (fun r105 z105 hp105 => ?_)
      obtain ⟨cur2_31, np2_32, nq2_33, nd2_34, pu2_35, P2_36⟩ := z105
      try dsimp only at hp105
      refine g_is (ws2 := [(ht, .inr (4, [.ref hb, .int (nI tl), .int (nI cur2_31)])), (hb, .inl (cI, 48, .inl (fun k_ => nI (tx k_)))), (hp, o2 r ti np2_32 nq2_33 nd2_34), (r 0, .inl (cI, 3, .inl (fun k_ => nI (pu2_35 k_)))), (r 1, .inl (cI, 5, .inl (fun k_ => nI (P2_36 0 k_)))), (r 2, .inl (cI, 5, .inl (fun k_ => nI (P2_36 1 k_)))), (r 3, .inl (cI, 5, .inl (fun k_ => nI (P2_36 2 k_)))), (r 4, .inl (cI, 5, .inl (fun k_ => nI (P2_36 3 k_)))), (r 5, .inl (cI, 5, .inl (fun k_ => nI (P2_36 4 k_)))), (r 6, .inl (cI, 5, .inl (fun k_ => nI (P2_36 5 k_))))]) (lv2 := [(0, .ref ht), (1, .ref hp), (2, .int (nI (tx cur)))]) (st2 := [.int r105]) rfl rfl rfl ?_
      refine g_top (y := bI ((rdD tx tl (cur + 1, np, nq, nd, pu, P)).1 = true)) hp105.1 ?_
      subst hQ
      refine g_zret (v := bI ((rdD tx tl (cur + 1, np, nq, nd, pu, P)).1 = true)) hC (cur2_31, np2_32, nq2_33, nd2_34, pu2_35, P2_36) hr bI_nar ?_ rfl dX4_readThing_108
      first
        | (exfalso; omega)
        | (have e : rdT tx tl (cur, np, nq, nd, pu, P) = rdD tx tl (cur + 1, np, nq, nd, pu, P) := by simp [rdT, *]
           rw [e]; exact ⟨rfl, hp105.2⟩)
    refine g_aload_n hC 1 dX4_readThing_49 rfl rfl ?_
    refine g_getN (C := RX2) (T := TX2) (N := 11) (ci := 2) (v := .int (nI np)) hC hcw2 2 rfl rfl 8 (by decide) (hC.2.2.1.f 4 rfl) (fun _ h => h) rfl dX4_readThing_50 ?_
    refine g_if_le_n (a := np) hC (by omega) 72 dX4_readThing_53 (by decide) (fun h53t => ?_) (fun h53f => ?_)
    · refine g_iload_n hC 2 dX4_readThing_72 rfl rfl ?_
      refine g_bipush (v := nI 68) hC dX4_readThing_73 (by decide +kernel) ?_
      refine g_icmp_ne_n (a := (tx cur)) (b := 68) hC (by omega) (by omega) 109 dX4_readThing_75 (by decide) (fun h75t => ?_) (fun h75f => ?_)
      · refine g_iconst (v := nI 0) hC dX4_readThing_109 rfl ?_
        subst hQ
        refine g_zret (v := nI 0) hC (cur, np, nq, nd, pu, P) hr (by decide +kernel) ?_ rfl dX4_readThing_110
        have e : rdT tx tl (cur, np, nq, nd, pu, P) = (false, cur, np, nq, nd, pu, P) := by
          unfold rdT; dsimp only; rw [if_neg (by omega), if_neg (by omega), if_neg (by omega)]
        rw [e]; exact ⟨(bI_f (by simp)).symm, rfl⟩
      refine g_aload_n hC 1 dX4_readThing_78 rfl rfl ?_
      refine g_getN (C := RX2) (T := TX2) (N := 11) (ci := 2) (v := .int (nI nd)) hC hcw2 2 rfl rfl 10 (by decide) (hC.2.2.1.f 9 rfl) (fun _ h => h) rfl dX4_readThing_79 ?_
      refine g_iconst (v := nI 5) hC dX4_readThing_82 rfl ?_
      refine g_icmp_ge_n (a := nd) (b := 5) hC (by omega) (by omega) 109 dX4_readThing_83 (by decide) (fun h83t => ?_) (fun h83f => ?_)
      · refine g_iconst (v := nI 0) hC dX4_readThing_109 rfl ?_
        subst hQ
        refine g_zret (v := nI 0) hC (cur, np, nq, nd, pu, P) hr (by decide +kernel) ?_ rfl dX4_readThing_110
        have e : rdT tx tl (cur, np, nq, nd, pu, P) = (false, cur, np, nq, nd, pu, P) := by
          unfold rdT; dsimp only; rw [if_neg (by omega), if_neg (by omega), if_neg (by omega)]
        rw [e]; exact ⟨(bI_f (by simp)).symm, rfl⟩
      refine g_aload_n hC 1 dX4_readThing_86 rfl rfl ?_
      refine g_getN (C := RX2) (T := TX2) (N := 11) (ci := 2) (v := .int (nI nq)) hC hcw2 2 rfl rfl 9 (by decide) (hC.2.2.1.f 6 rfl) (fun _ h => h) rfl dX4_readThing_87 ?_
      refine g_if_le_n (a := nq) hC (by omega) 109 dX4_readThing_90 (by decide) (fun h90t => ?_) (fun h90f => ?_)
      · refine g_iconst (v := nI 0) hC dX4_readThing_109 rfl ?_
        subst hQ
        refine g_zret (v := nI 0) hC (cur, np, nq, nd, pu, P) hr (by decide +kernel) ?_ rfl dX4_readThing_110
        have e : rdT tx tl (cur, np, nq, nd, pu, P) = (false, cur, np, nq, nd, pu, P) := by
          unfold rdT; dsimp only; rw [if_neg (by omega), if_neg (by omega), if_neg (by omega)]
        rw [e]; exact ⟨(bI_f (by simp)).symm, rfl⟩
      refine g_aload_n hC 0 dX4_readThing_93 rfl rfl ?_
      refine g_dup hC dX4_readThing_94 rfl ?_
      refine g_get (C := RX4) (T := TX4) (N := 3) (ci := 4) (v := .int (nI cur)) hC hcw4 0 rfl rfl 2 (by decide) w1 (fun _ h => h) rfl dX4_readThing_95 ?_
      refine g_iconst (v := nI 1) hC dX4_readThing_98 rfl ?_
      refine g_iadd_n (a := cur) (b := 1) hC dX4_readThing_99 ?_
      refine g_put (C := RX4) (T := TX4) (N := 3) (ci := 4) (v := .int (nI (cur + 1))) hC hcw4 tyX4 tyX4_ok nmX4 0 rfl rfl 2 (by decide) w1 (fun _ h => h) rfl (tyX4_ok 2 (by decide)) rfl rfl (Nat.le_of_ble_eq_true rfl) [(ht, .inr (4, [.ref hb, .int (nI tl), .int (nI (cur + 1))])), (hb, .inl (cI, 48, .inl (fun k_ => nI (tx k_)))), (hp, o2 r ti np nq nd), (r 0, .inl (cI, 3, .inl (fun k_ => nI (pu k_)))), (r 1, .inl (cI, 5, .inl (fun k_ => nI (P 0 k_)))), (r 2, .inl (cI, 5, .inl (fun k_ => nI (P 1 k_)))), (r 3, .inl (cI, 5, .inl (fun k_ => nI (P 2 k_)))), (r 4, .inl (cI, 5, .inl (fun k_ => nI (P 3 k_)))), (r 5, .inl (cI, 5, .inl (fun k_ => nI (P 4 k_)))), (r 6, .inl (cI, 5, .inl (fun k_ => nI (P 5 k_))))] rfl dX4_readThing_100 ?_
      refine g_aload_n hC 0 dX4_readThing_103 rfl rfl ?_
      refine g_aload_n hC 1 dX4_readThing_104 rfl rfl ?_
      refine g_callVi (As := [.ref hp]) (rest := []) hC (c_X4_readDeed l D cI cZ ht hb tx tl (cur + 1) hp r ti np nq nd pu P (by first | assumption | omega) (by first | assumption | omega) (by first | assumption | omega) (by first | assumption | omega) (by first | assumption | omega) (by first | assumption | omega) (by first | assumption | omega) (by first | assumption | omega)) (cwV 1 hC.1.2.2.2.2 gX4_readThing_X4_readDeed rfl rfl rfl dV_X4_readDeed ⟨Nat.le_of_ble_eq_true rfl, Nat.le_of_ble_eq_true rfl⟩) rfl rfl rfl rfl (Nat.le_of_ble_eq_true rfl) dX4_readThing_105 ⟨Nat.le_of_ble_eq_true rfl, Nat.le_of_ble_eq_true rfl⟩ [0, 1, 2, 3, 4, 5, 6, 7, 8, 9] [] [0, 1, 2, 3, 4, 5, 6, 7, 8, 9] (fun (z : Nat × Nat × Nat × Nat × (Nat → Nat) × (Nat → Nat → Nat)) => match z with | (cur2_37, np2_38, nq2_39, nd2_40, pu2_41, P2_42) => [(ht, .inr (4, [.ref hb, .int (nI tl), .int (nI cur2_37)])), (hb, .inl (cI, 48, .inl (fun k_ => nI (tx k_)))), (hp, o2 r ti np2_38 nq2_39 nd2_40), (r 0, .inl (cI, 3, .inl (fun k_ => nI (pu2_41 k_)))), (r 1, .inl (cI, 5, .inl (fun k_ => nI (P2_42 0 k_)))), (r 2, .inl (cI, 5, .inl (fun k_ => nI (P2_42 1 k_)))), (r 3, .inl (cI, 5, .inl (fun k_ => nI (P2_42 2 k_)))), (r 4, .inl (cI, 5, .inl (fun k_ => nI (P2_42 3 k_)))), (r 5, .inl (cI, 5, .inl (fun k_ => nI (P2_42 4 k_)))), (r 6, .inl (cI, 5, .inl (fun k_ => nI (P2_42 5 k_))))]) rfl rfl rfl (fun _ => rfl) (fun r105 z105 hp105 => ?_)
      obtain ⟨cur2_37, np2_38, nq2_39, nd2_40, pu2_41, P2_42⟩ := z105
      try dsimp only at hp105
      refine g_is (ws2 := [(ht, .inr (4, [.ref hb, .int (nI tl), .int (nI cur2_37)])), (hb, .inl (cI, 48, .inl (fun k_ => nI (tx k_)))), (hp, o2 r ti np2_38 nq2_39 nd2_40), (r 0, .inl (cI, 3, .inl (fun k_ => nI (pu2_41 k_)))), (r 1, .inl (cI, 5, .inl (fun k_ => nI (P2_42 0 k_)))), (r 2, .inl (cI, 5, .inl (fun k_ => nI (P2_42 1 k_)))), (r 3, .inl (cI, 5, .inl (fun k_ => nI (P2_42 2 k_)))), (r 4, .inl (cI, 5, .inl (fun k_ => nI (P2_42 3 k_)))), (r 5, .inl (cI, 5, .inl (fun k_ => nI (P2_42 4 k_)))), (r 6, .inl (cI, 5, .inl (fun k_ => nI (P2_42 5 k_))))]) (lv2 := [(0, .ref ht), (1, .ref hp), (2, .int (nI (tx cur)))]) (st2 := [.int r105]) rfl rfl rfl ?_
      refine g_top (y := bI ((rdD tx tl (cur + 1, np, nq, nd, pu, P)).1 = true)) hp105.1 ?_
      subst hQ
      refine g_zret (v := bI ((rdD tx tl (cur + 1, np, nq, nd, pu, P)).1 = true)) hC (cur2_37, np2_38, nq2_39, nd2_40, pu2_41, P2_42) hr bI_nar ?_ rfl dX4_readThing_108
      first
        | (exfalso; omega)
        | (have e : rdT tx tl (cur, np, nq, nd, pu, P) = rdD tx tl (cur + 1, np, nq, nd, pu, P) := by simp [rdT, *]
           rw [e]; exact ⟨rfl, hp105.2⟩)
    refine g_aload_n hC 0 dX4_readThing_56 rfl rfl ?_
    refine g_dup hC dX4_readThing_57 rfl ?_
    refine g_get (C := RX4) (T := TX4) (N := 3) (ci := 4) (v := .int (nI cur)) hC hcw4 0 rfl rfl 2 (by decide) w1 (fun _ h => h) rfl dX4_readThing_58 ?_
    refine g_iconst (v := nI 1) hC dX4_readThing_61 rfl ?_
    refine g_iadd_n (a := cur) (b := 1) hC dX4_readThing_62 ?_
    refine g_put (C := RX4) (T := TX4) (N := 3) (ci := 4) (v := .int (nI (cur + 1))) hC hcw4 tyX4 tyX4_ok nmX4 0 rfl rfl 2 (by decide) w1 (fun _ h => h) rfl (tyX4_ok 2 (by decide)) rfl rfl (Nat.le_of_ble_eq_true rfl) [(ht, .inr (4, [.ref hb, .int (nI tl), .int (nI (cur + 1))])), (hb, .inl (cI, 48, .inl (fun k_ => nI (tx k_)))), (hp, o2 r ti np nq nd), (r 0, .inl (cI, 3, .inl (fun k_ => nI (pu k_)))), (r 1, .inl (cI, 5, .inl (fun k_ => nI (P 0 k_)))), (r 2, .inl (cI, 5, .inl (fun k_ => nI (P 1 k_)))), (r 3, .inl (cI, 5, .inl (fun k_ => nI (P 2 k_)))), (r 4, .inl (cI, 5, .inl (fun k_ => nI (P 3 k_)))), (r 5, .inl (cI, 5, .inl (fun k_ => nI (P 4 k_)))), (r 6, .inl (cI, 5, .inl (fun k_ => nI (P 5 k_))))] rfl dX4_readThing_63 ?_
    refine g_aload_n hC 0 dX4_readThing_66 rfl rfl ?_
    refine g_aload_n hC 1 dX4_readThing_67 rfl rfl ?_
    refine g_callVi (As := [.ref hp]) (rest := []) hC (c_X4_readQuality l D cI cZ ht hb tx tl (cur + 1) hp r ti np nq nd pu P (by first | assumption | omega) (by first | assumption | omega) (by first | assumption | omega) (by first | assumption | omega) (by first | assumption | omega) (by first | assumption | omega) (by first | assumption | omega) (by first | assumption | omega)) (cwV 1 hC.1.2.2.2.2 gX4_readThing_X4_readQuality rfl rfl rfl dV_X4_readQuality ⟨Nat.le_of_ble_eq_true rfl, Nat.le_of_ble_eq_true rfl⟩) rfl rfl rfl rfl (Nat.le_of_ble_eq_true rfl) dX4_readThing_68 ⟨Nat.le_of_ble_eq_true rfl, Nat.le_of_ble_eq_true rfl⟩ [0, 1, 2, 3, 4, 5, 6, 7, 8, 9] [] [0, 1, 2, 3, 4, 5, 6, 7, 8, 9] (fun (z : Nat × Nat × Nat × Nat × (Nat → Nat) × (Nat → Nat → Nat)) => match z with | (cur2_43, np2_44, nq2_45, nd2_46, pu2_47, P2_48) => [(ht, .inr (4, [.ref hb, .int (nI tl), .int (nI cur2_43)])), (hb, .inl (cI, 48, .inl (fun k_ => nI (tx k_)))), (hp, o2 r ti np2_44 nq2_45 nd2_46), (r 0, .inl (cI, 3, .inl (fun k_ => nI (pu2_47 k_)))), (r 1, .inl (cI, 5, .inl (fun k_ => nI (P2_48 0 k_)))), (r 2, .inl (cI, 5, .inl (fun k_ => nI (P2_48 1 k_)))), (r 3, .inl (cI, 5, .inl (fun k_ => nI (P2_48 2 k_)))), (r 4, .inl (cI, 5, .inl (fun k_ => nI (P2_48 3 k_)))), (r 5, .inl (cI, 5, .inl (fun k_ => nI (P2_48 4 k_)))), (r 6, .inl (cI, 5, .inl (fun k_ => nI (P2_48 5 k_))))]) rfl rfl rfl (fun _ => rfl) (fun r68 z68 hp68 => ?_)
    obtain ⟨cur2_43, np2_44, nq2_45, nd2_46, pu2_47, P2_48⟩ := z68
    try dsimp only at hp68
    refine g_is (ws2 := [(ht, .inr (4, [.ref hb, .int (nI tl), .int (nI cur2_43)])), (hb, .inl (cI, 48, .inl (fun k_ => nI (tx k_)))), (hp, o2 r ti np2_44 nq2_45 nd2_46), (r 0, .inl (cI, 3, .inl (fun k_ => nI (pu2_47 k_)))), (r 1, .inl (cI, 5, .inl (fun k_ => nI (P2_48 0 k_)))), (r 2, .inl (cI, 5, .inl (fun k_ => nI (P2_48 1 k_)))), (r 3, .inl (cI, 5, .inl (fun k_ => nI (P2_48 2 k_)))), (r 4, .inl (cI, 5, .inl (fun k_ => nI (P2_48 3 k_)))), (r 5, .inl (cI, 5, .inl (fun k_ => nI (P2_48 4 k_)))), (r 6, .inl (cI, 5, .inl (fun k_ => nI (P2_48 5 k_))))]) (lv2 := [(0, .ref ht), (1, .ref hp), (2, .int (nI (tx cur)))]) (st2 := [.int r68]) rfl rfl rfl ?_
    refine g_top (y := bI ((rdQ tx tl (cur + 1, np, nq, nd, pu, P)).1 = true)) hp68.1 ?_
    subst hQ
    refine g_zret (v := bI ((rdQ tx tl (cur + 1, np, nq, nd, pu, P)).1 = true)) hC (cur2_43, np2_44, nq2_45, nd2_46, pu2_47, P2_48) hr bI_nar ?_ rfl dX4_readThing_71
    first
      | (exfalso; omega)
      | (have e : rdT tx tl (cur, np, nq, nd, pu, P) = rdQ tx tl (cur + 1, np, nq, nd, pu, P) := by simp [rdT, *]
         rw [e]; exact ⟨rfl, hp68.2⟩)
  refine g_aload_n hC 0 dX4_readThing_19 rfl rfl ?_
  refine g_dup hC dX4_readThing_20 rfl ?_
  refine g_get (C := RX4) (T := TX4) (N := 3) (ci := 4) (v := .int (nI cur)) hC hcw4 0 rfl rfl 2 (by decide) w1 (fun _ h => h) rfl dX4_readThing_21 ?_
  refine g_iconst (v := nI 1) hC dX4_readThing_24 rfl ?_
  refine g_iadd_n (a := cur) (b := 1) hC dX4_readThing_25 ?_
  refine g_put (C := RX4) (T := TX4) (N := 3) (ci := 4) (v := .int (nI (cur + 1))) hC hcw4 tyX4 tyX4_ok nmX4 0 rfl rfl 2 (by decide) w1 (fun _ h => h) rfl (tyX4_ok 2 (by decide)) rfl rfl (Nat.le_of_ble_eq_true rfl) [(ht, .inr (4, [.ref hb, .int (nI tl), .int (nI (cur + 1))])), (hb, .inl (cI, 48, .inl (fun k_ => nI (tx k_)))), (hp, o2 r ti np nq nd), (r 0, .inl (cI, 3, .inl (fun k_ => nI (pu k_)))), (r 1, .inl (cI, 5, .inl (fun k_ => nI (P 0 k_)))), (r 2, .inl (cI, 5, .inl (fun k_ => nI (P 1 k_)))), (r 3, .inl (cI, 5, .inl (fun k_ => nI (P 2 k_)))), (r 4, .inl (cI, 5, .inl (fun k_ => nI (P 3 k_)))), (r 5, .inl (cI, 5, .inl (fun k_ => nI (P 4 k_)))), (r 6, .inl (cI, 5, .inl (fun k_ => nI (P 5 k_))))] rfl dX4_readThing_26 ?_
  refine g_aload_n hC 0 dX4_readThing_29 rfl rfl ?_
  refine g_aload_n hC 1 dX4_readThing_30 rfl rfl ?_
  refine g_callVi (As := [.ref hp]) (rest := []) hC (c_X4_readPerson l D cI cZ ht hb tx tl (cur + 1) hp r ti np nq nd pu P (by first | assumption | omega) (by first | assumption | omega) (by first | assumption | omega) (by first | assumption | omega) (by first | assumption | omega) (by first | assumption | omega) (by first | assumption | omega)) (cwV 1 hC.1.2.2.2.2 gX4_readThing_X4_readPerson rfl rfl rfl dV_X4_readPerson ⟨Nat.le_of_ble_eq_true rfl, Nat.le_of_ble_eq_true rfl⟩) rfl rfl rfl rfl (Nat.le_of_ble_eq_true rfl) dX4_readThing_31 ⟨Nat.le_of_ble_eq_true rfl, Nat.le_of_ble_eq_true rfl⟩ [0, 1, 2, 3, 4, 5, 6, 7, 8, 9] [] [0, 1, 2, 3, 4, 5, 6, 7, 8, 9] (fun (z : Nat × Nat × Nat × Nat × (Nat → Nat) × (Nat → Nat → Nat)) => match z with | (cur2_49, np2_50, nq2_51, nd2_52, pu2_53, P2_54) => [(ht, .inr (4, [.ref hb, .int (nI tl), .int (nI cur2_49)])), (hb, .inl (cI, 48, .inl (fun k_ => nI (tx k_)))), (hp, o2 r ti np2_50 nq2_51 nd2_52), (r 0, .inl (cI, 3, .inl (fun k_ => nI (pu2_53 k_)))), (r 1, .inl (cI, 5, .inl (fun k_ => nI (P2_54 0 k_)))), (r 2, .inl (cI, 5, .inl (fun k_ => nI (P2_54 1 k_)))), (r 3, .inl (cI, 5, .inl (fun k_ => nI (P2_54 2 k_)))), (r 4, .inl (cI, 5, .inl (fun k_ => nI (P2_54 3 k_)))), (r 5, .inl (cI, 5, .inl (fun k_ => nI (P2_54 4 k_)))), (r 6, .inl (cI, 5, .inl (fun k_ => nI (P2_54 5 k_))))]) rfl rfl rfl (fun _ => rfl) (fun r31 z31 hp31 => ?_)
  obtain ⟨cur2_49, np2_50, nq2_51, nd2_52, pu2_53, P2_54⟩ := z31
  try dsimp only at hp31
  refine g_is (ws2 := [(ht, .inr (4, [.ref hb, .int (nI tl), .int (nI cur2_49)])), (hb, .inl (cI, 48, .inl (fun k_ => nI (tx k_)))), (hp, o2 r ti np2_50 nq2_51 nd2_52), (r 0, .inl (cI, 3, .inl (fun k_ => nI (pu2_53 k_)))), (r 1, .inl (cI, 5, .inl (fun k_ => nI (P2_54 0 k_)))), (r 2, .inl (cI, 5, .inl (fun k_ => nI (P2_54 1 k_)))), (r 3, .inl (cI, 5, .inl (fun k_ => nI (P2_54 2 k_)))), (r 4, .inl (cI, 5, .inl (fun k_ => nI (P2_54 3 k_)))), (r 5, .inl (cI, 5, .inl (fun k_ => nI (P2_54 4 k_)))), (r 6, .inl (cI, 5, .inl (fun k_ => nI (P2_54 5 k_))))]) (lv2 := [(0, .ref ht), (1, .ref hp), (2, .int (nI (tx cur)))]) (st2 := [.int r31]) rfl rfl rfl ?_
  refine g_top (y := bI ((rdP tx tl (cur + 1, np, nq, nd, pu, P)).1 = true)) hp31.1 ?_
  subst hQ
  refine g_zret (v := bI ((rdP tx tl (cur + 1, np, nq, nd, pu, P)).1 = true)) hC (cur2_49, np2_50, nq2_51, nd2_52, pu2_53, P2_54) hr bI_nar ?_ rfl dX4_readThing_34
  first
    | (exfalso; omega)
    | (have e : rdT tx tl (cur, np, nq, nd, pu, P) = rdP tx tl (cur + 1, np, nq, nd, pu, P) := by simp [rdT, *]
       rw [e]; exact ⟨rfl, hp31.2⟩)

abbrev rm_X4_readInto : Room := { frames := 5, cells := 0, slots := 0, locals := 110 }
set_option maxRecDepth 100000 in
set_option maxHeartbeats 4000000 in
theorem c_X4_readInto (l : Launch) (D : va_G) (cI cZ : ClassId) (ht : Nat) (hb : Nat) (tx : Nat → Nat) (tl : Nat) (cur : Nat) (hp : Nat) (r : Nat → Nat) (ti : Int32) (np : Nat) (nq : Nat) (nd : Nat) (pu : Nat → Nat) (P : Nat → Nat → Nat) (hl : tl ≤ 48) (htx : ∀ k, tx k < 256) : CtI l yX4_readInto wsX4_readInto rm_X4_readInto D cI cZ [.ref ht, .ref hp] [(ht, .inr (4, [.ref hb, .int (nI tl), .int (nI cur)])), (hb, .inl (cI, 48, .inl (fun k_ => nI (tx k_)))), (hp, o2 r ti np nq nd), (r 0, .inl (cI, 3, .inl (fun k_ => nI (pu k_)))), (r 1, .inl (cI, 5, .inl (fun k_ => nI (P 0 k_)))), (r 2, .inl (cI, 5, .inl (fun k_ => nI (P 1 k_)))), (r 3, .inl (cI, 5, .inl (fun k_ => nI (P 2 k_)))), (r 4, .inl (cI, 5, .inl (fun k_ => nI (P 3 k_)))), (r 5, .inl (cI, 5, .inl (fun k_ => nI (P 4 k_)))), (r 6, .inl (cI, 5, .inl (fun k_ => nI (P 5 k_))))] (fun (r : Int32) (z : Int32 × Nat × Nat × Nat × Nat × (Nat → Nat) × (Nat → Nat → Nat)) => match z with | (ti2, cur2, np2, nq2, nd2, pu2, P2) => r = (rdA tx tl pu P).1 ∧ ti2 = nI (rdA tx tl pu P).2.1 ∧ (cur2, np2, nq2, nd2, pu2, P2) = (rdA tx tl pu P).2.2) (fun (z : Int32 × Nat × Nat × Nat × Nat × (Nat → Nat) × (Nat → Nat → Nat)) => match z with | (ti2, cur2, np2, nq2, nd2, pu2, P2) => [(ht, .inr (4, [.ref hb, .int (nI tl), .int (nI cur2)])), (hb, .inl (cI, 48, .inl (fun k_ => nI (tx k_)))), (hp, o2 r ti2 np2 nq2 nd2), (r 0, .inl (cI, 3, .inl (fun k_ => nI (pu2 k_)))), (r 1, .inl (cI, 5, .inl (fun k_ => nI (P2 0 k_)))), (r 2, .inl (cI, 5, .inl (fun k_ => nI (P2 1 k_)))), (r 3, .inl (cI, 5, .inl (fun k_ => nI (P2 2 k_)))), (r 4, .inl (cI, 5, .inl (fun k_ => nI (P2 3 k_)))), (r 5, .inl (cI, 5, .inl (fun k_ => nI (P2 4 k_)))), (r 6, .inl (cI, 5, .inl (fun k_ => nI (P2 5 k_))))]) 0 0 := by
  refine g_startI (ret := (some .int)) (own := RX4) (lv0 := [(0, .ref ht), (1, .ref hp)]) (by decide) rfl rfl (Nat.le_of_ble_eq_true rfl) rfl ?_
  intro p e s m args below meth cd A Q hin hr hQ hC
  have hcw2 : ∀ w ∈ wsX20, w ∈ wsX4_readInto := fun _ h => List.mem_cons_of_mem _ (List.mem_append_right _ h)
  have hcw4 : ∀ w ∈ wsX40, w ∈ wsX4_readInto := fun _ h => List.mem_cons_of_mem _ (List.mem_append_left _ (List.mem_append_right _ h))
  have w1 := hC.1.2.2.2.2 (.fieldLink "PluckBroker$Text" 28 "PluckBroker$Text" "cursor" "I") (List.mem_of_getElem? (i := 1) rfl)
  have w2 := hC.1.2.2.2.2 (.fieldLink "PluckBroker$Text" 15 "PluckBroker$Text" "length" "I") (List.mem_of_getElem? (i := 2) rfl)
  have hx0 := htx 0
  have hx1 := htx 1
  refine g_aload_n hC 1 dX4_readInto_0 rfl rfl ?_
  refine g_callVv (As := []) (rest := []) hC (c_X2_clear l D cI cZ hp r ti np nq nd) (cwV 0 hC.1.2.2.2.2 gX4_readInto_X2_clear rfl rfl rfl dV_X2_clear ⟨Nat.le_of_ble_eq_true rfl, Nat.le_of_ble_eq_true rfl⟩) rfl rfl rfl rfl (Nat.le_of_ble_eq_true rfl) dX4_readInto_1 ⟨Nat.le_of_ble_eq_true rfl, Nat.le_of_ble_eq_true rfl⟩ [2] [0, 1, 3, 4, 5, 6, 7, 8, 9] [0, 1, 9, 2, 3, 4, 5, 6, 7, 8] (fun (_ : Unit) => [(ht, .inr (4, [.ref hb, .int (nI tl), .int (nI cur)])), (hb, .inl (cI, 48, .inl (fun k_ => nI (tx k_)))), (hp, o2 r (nI 0) 0 0 0), (r 0, .inl (cI, 3, .inl (fun k_ => nI (pu k_)))), (r 1, .inl (cI, 5, .inl (fun k_ => nI (P 0 k_)))), (r 2, .inl (cI, 5, .inl (fun k_ => nI (P 1 k_)))), (r 3, .inl (cI, 5, .inl (fun k_ => nI (P 2 k_)))), (r 4, .inl (cI, 5, .inl (fun k_ => nI (P 3 k_)))), (r 5, .inl (cI, 5, .inl (fun k_ => nI (P 4 k_)))), (r 6, .inl (cI, 5, .inl (fun k_ => nI (P 5 k_))))]) rfl rfl rfl (fun _ => rfl) (fun z1 hp1 => ?_)
  refine g_is (ws2 := [(ht, .inr (4, [.ref hb, .int (nI tl), .int (nI cur)])), (hb, .inl (cI, 48, .inl (fun k_ => nI (tx k_)))), (hp, o2 r (nI 0) 0 0 0), (r 0, .inl (cI, 3, .inl (fun k_ => nI (pu k_)))), (r 1, .inl (cI, 5, .inl (fun k_ => nI (P 0 k_)))), (r 2, .inl (cI, 5, .inl (fun k_ => nI (P 1 k_)))), (r 3, .inl (cI, 5, .inl (fun k_ => nI (P 2 k_)))), (r 4, .inl (cI, 5, .inl (fun k_ => nI (P 3 k_)))), (r 5, .inl (cI, 5, .inl (fun k_ => nI (P 4 k_)))), (r 6, .inl (cI, 5, .inl (fun k_ => nI (P 5 k_))))]) (lv2 := [(0, .ref ht), (1, .ref hp)]) (st2 := []) rfl rfl rfl ?_
  refine g_aload_n hC 0 dX4_readInto_4 rfl rfl ?_
  refine g_iconst (v := nI 0) hC dX4_readInto_5 rfl ?_
  refine g_put (C := RX4) (T := TX4) (N := 3) (ci := 4) (v := .int (nI 0)) hC hcw4 tyX4 tyX4_ok nmX4 0 rfl rfl 2 (by decide) w1 (fun _ h => h) rfl (tyX4_ok 2 (by decide)) rfl rfl (Nat.le_of_ble_eq_true rfl) [(ht, .inr (4, [.ref hb, .int (nI tl), .int (nI 0)])), (hb, .inl (cI, 48, .inl (fun k_ => nI (tx k_)))), (hp, o2 r (nI 0) 0 0 0), (r 0, .inl (cI, 3, .inl (fun k_ => nI (pu k_)))), (r 1, .inl (cI, 5, .inl (fun k_ => nI (P 0 k_)))), (r 2, .inl (cI, 5, .inl (fun k_ => nI (P 1 k_)))), (r 3, .inl (cI, 5, .inl (fun k_ => nI (P 2 k_)))), (r 4, .inl (cI, 5, .inl (fun k_ => nI (P 3 k_)))), (r 5, .inl (cI, 5, .inl (fun k_ => nI (P 4 k_)))), (r 6, .inl (cI, 5, .inl (fun k_ => nI (P 5 k_))))] rfl dX4_readInto_6 ?_
  refine g_aload_n hC 0 dX4_readInto_9 rfl rfl ?_
  by_cases hz : 0 < tl
  · refine g_callVip (As := []) (rest := []) hC (nI (tx 0)) (c_X4_upcoming l D cI cZ ht hb tx tl 0 (by first | assumption | omega) hz) (cwV 0 hC.1.2.2.2.2 gX4_readInto_X4_upcoming rfl rfl rfl dV_X4_upcoming ⟨Nat.le_of_ble_eq_true rfl, Nat.le_of_ble_eq_true rfl⟩) rfl rfl rfl rfl (Nat.le_of_ble_eq_true rfl) dX4_readInto_10 ⟨Nat.le_of_ble_eq_true rfl, Nat.le_of_ble_eq_true rfl⟩ [0, 1] rfl rfl ?_
    refine g_bipush (v := nI 66) hC dX4_readInto_13 (by decide +kernel) ?_
    refine g_icmp_eq_n (a := (tx 0)) (b := 66) hC (by omega) (by omega) 23 dX4_readInto_15 (by decide) (fun h15t => ?_) (fun h15f => ?_)
    · refine g_aload_n hC 0 dX4_readInto_23 rfl rfl ?_
      refine g_dup hC dX4_readInto_24 rfl ?_
      refine g_get (C := RX4) (T := TX4) (N := 3) (ci := 4) (v := .int (nI 0)) hC hcw4 0 rfl rfl 2 (by decide) w1 (fun _ h => h) rfl dX4_readInto_25 ?_
      refine g_iconst (v := nI 1) hC dX4_readInto_28 rfl ?_
      refine g_iadd_n (a := 0) (b := 1) hC dX4_readInto_29 ?_
      refine g_put (C := RX4) (T := TX4) (N := 3) (ci := 4) (v := .int (nI (0 + 1))) hC hcw4 tyX4 tyX4_ok nmX4 0 rfl rfl 2 (by decide) w1 (fun _ h => h) rfl (tyX4_ok 2 (by decide)) rfl rfl (Nat.le_of_ble_eq_true rfl) [(ht, .inr (4, [.ref hb, .int (nI tl), .int (nI (0 + 1))])), (hb, .inl (cI, 48, .inl (fun k_ => nI (tx k_)))), (hp, o2 r (nI 0) 0 0 0), (r 0, .inl (cI, 3, .inl (fun k_ => nI (pu k_)))), (r 1, .inl (cI, 5, .inl (fun k_ => nI (P 0 k_)))), (r 2, .inl (cI, 5, .inl (fun k_ => nI (P 1 k_)))), (r 3, .inl (cI, 5, .inl (fun k_ => nI (P 2 k_)))), (r 4, .inl (cI, 5, .inl (fun k_ => nI (P 3 k_)))), (r 5, .inl (cI, 5, .inl (fun k_ => nI (P 4 k_)))), (r 6, .inl (cI, 5, .inl (fun k_ => nI (P 5 k_))))] rfl dX4_readInto_30 ?_
      refine g_aload_n hC 0 dX4_readInto_33 rfl rfl ?_
      refine g_iconst (v := nI 0) hC dX4_readInto_34 rfl ?_
      refine g_bipush (v := nI 9) hC dX4_readInto_35 (by decide +kernel) ?_
      refine g_callVi (As := [.int (nI 0), .int (nI 9)]) (rest := []) hC (c_X4_figure l D cI cZ ht hb tx tl (0 + 1) 0 9 (by first | assumption | omega) (by first | assumption | omega) (by first | assumption | omega) (by first | assumption | omega) (by first | assumption | omega)) (cwV 2 hC.1.2.2.2.2 gX4_readInto_X4_figure rfl rfl rfl dV_X4_figure ⟨Nat.le_of_ble_eq_true rfl, Nat.le_of_ble_eq_true rfl⟩) rfl rfl rfl rfl (Nat.le_of_ble_eq_true rfl) dX4_readInto_37 ⟨Nat.le_of_ble_eq_true rfl, Nat.le_of_ble_eq_true rfl⟩ [0, 1] [2, 3, 4, 5, 6, 7, 8, 9] [8, 9, 0, 1, 2, 3, 4, 5, 6, 7] (fun (_ : Unit) => [(ht, .inr (4, [.ref hb, .int (nI tl), .int (nI (figC tx tl (0 + 1) 0 9))])), (hb, .inl (cI, 48, .inl (fun k_ => nI (tx k_)))), (hp, o2 r (nI 0) 0 0 0), (r 0, .inl (cI, 3, .inl (fun k_ => nI (pu k_)))), (r 1, .inl (cI, 5, .inl (fun k_ => nI (P 0 k_)))), (r 2, .inl (cI, 5, .inl (fun k_ => nI (P 1 k_)))), (r 3, .inl (cI, 5, .inl (fun k_ => nI (P 2 k_)))), (r 4, .inl (cI, 5, .inl (fun k_ => nI (P 3 k_)))), (r 5, .inl (cI, 5, .inl (fun k_ => nI (P 4 k_)))), (r 6, .inl (cI, 5, .inl (fun k_ => nI (P 5 k_))))]) rfl rfl rfl (fun _ => rfl) (fun r37 z37 hp37 => ?_)
      try dsimp only at hp37
      subst hp37
      refine g_is (ws2 := [(ht, .inr (4, [.ref hb, .int (nI tl), .int (nI (figC tx tl (0 + 1) 0 9))])), (hb, .inl (cI, 48, .inl (fun k_ => nI (tx k_)))), (hp, o2 r (nI 0) 0 0 0), (r 0, .inl (cI, 3, .inl (fun k_ => nI (pu k_)))), (r 1, .inl (cI, 5, .inl (fun k_ => nI (P 0 k_)))), (r 2, .inl (cI, 5, .inl (fun k_ => nI (P 1 k_)))), (r 3, .inl (cI, 5, .inl (fun k_ => nI (P 2 k_)))), (r 4, .inl (cI, 5, .inl (fun k_ => nI (P 3 k_)))), (r 5, .inl (cI, 5, .inl (fun k_ => nI (P 4 k_)))), (r 6, .inl (cI, 5, .inl (fun k_ => nI (P 5 k_))))]) (lv2 := [(0, .ref ht), (1, .ref hp)]) (st2 := [.int (figV tx tl (0 + 1) 0 9)]) rfl rfl rfl ?_
      refine g_istore_n (lv' := [(0, .ref ht), (1, .ref hp), (2, .int (figV tx tl (0 + 1) 0 9))]) hC [1, 2, 0] dX4_readInto_40 rfl (by decide) rfl ?_
      refine g_iload_n hC 2 dX4_readInto_41 rfl rfl ?_
      refine g_if_ge hC 50 dX4_readInto_42 (by decide) (fun h42t => ?_) (fun h42f => ?_)
      · have hf1 := figV_t h42t
        have efld : (figC tx tl (0 + 1) 0 9 : Nat) = 2 := by rw [figC_e hf1]
        refine g_ws (ws2 := [(ht, .inr (4, [.ref hb, .int (nI tl), .int (nI 2)])), (hb, .inl (cI, 48, .inl (fun k_ => nI (tx k_)))), (hp, o2 r (nI 0) 0 0 0), (r 0, .inl (cI, 3, .inl (fun k_ => nI (pu k_)))), (r 1, .inl (cI, 5, .inl (fun k_ => nI (P 0 k_)))), (r 2, .inl (cI, 5, .inl (fun k_ => nI (P 1 k_)))), (r 3, .inl (cI, 5, .inl (fun k_ => nI (P 2 k_)))), (r 4, .inl (cI, 5, .inl (fun k_ => nI (P 3 k_)))), (r 5, .inl (cI, 5, .inl (fun k_ => nI (P 4 k_)))), (r 6, .inl (cI, 5, .inl (fun k_ => nI (P 5 k_))))]) (congrArg (fun zz : Nat => ([(ht, .inr (4, [.ref hb, .int (nI tl), .int (nI zz)])), (hb, .inl (cI, 48, .inl (fun k_ => nI (tx k_)))), (hp, o2 r (nI 0) 0 0 0), (r 0, .inl (cI, 3, .inl (fun k_ => nI (pu k_)))), (r 1, .inl (cI, 5, .inl (fun k_ => nI (P 0 k_)))), (r 2, .inl (cI, 5, .inl (fun k_ => nI (P 1 k_)))), (r 3, .inl (cI, 5, .inl (fun k_ => nI (P 2 k_)))), (r 4, .inl (cI, 5, .inl (fun k_ => nI (P 3 k_)))), (r 5, .inl (cI, 5, .inl (fun k_ => nI (P 4 k_)))), (r 6, .inl (cI, 5, .inl (fun k_ => nI (P 5 k_))))] : va_W)) efld) ?_
        refine g_aload_n hC 1 dX4_readInto_50 rfl rfl ?_
        refine g_iload_n hC 2 dX4_readInto_51 rfl rfl ?_
        refine g_top (y := nI (tx 1 - 48)) (figV_e hf1) ?_
        refine g_putN (C := RX2) (T := TX2) (N := 11) (ci := 2) (v := .int (nI (tx 1 - 48))) hC hcw2 tyX2 tyX2_ok nmX2 2 rfl rfl 7 (by decide) (hC.2.2.1.f 2 rfl) (fun _ h => h) rfl (tyX2_ok 7 (by decide)) rfl rfl (Nat.le_of_ble_eq_true rfl) [(ht, .inr (4, [.ref hb, .int (nI tl), .int (nI 2)])), (hb, .inl (cI, 48, .inl (fun k_ => nI (tx k_)))), (hp, o2 r (nI (tx 1 - 48)) 0 0 0), (r 0, .inl (cI, 3, .inl (fun k_ => nI (pu k_)))), (r 1, .inl (cI, 5, .inl (fun k_ => nI (P 0 k_)))), (r 2, .inl (cI, 5, .inl (fun k_ => nI (P 1 k_)))), (r 3, .inl (cI, 5, .inl (fun k_ => nI (P 2 k_)))), (r 4, .inl (cI, 5, .inl (fun k_ => nI (P 3 k_)))), (r 5, .inl (cI, 5, .inl (fun k_ => nI (P 4 k_)))), (r 6, .inl (cI, 5, .inl (fun k_ => nI (P 5 k_))))] rfl dX4_readInto_52 ?_
        refine g_iconst (v := nI 0) hC dX4_readInto_55 rfl ?_
        refine g_istore_n (lv' := [(0, .ref ht), (1, .ref hp), (2, .int (figV tx tl (0 + 1) 0 9)), (3, .int (nI 0))]) hC [1, 2, 3, 0] dX4_readInto_56 rfl (by decide) rfl ?_
        have L57 : ∀ (n : Nat) (i : Nat) (cur1 : Nat) (np1 : Nat) (nq1 : Nat) (nd1 : Nat) (pu1 : Nat → Nat) (P1 : Nat → Nat → Nat), (i ≤ 48) → (cur1 ≤ tl ∧ np1 ≤ 3 ∧ nq1 ≤ 5 ∧ nd1 ≤ 5) → (rdL tx tl 48 (2, 0, 0, 0, pu, P) = rdL tx tl (48 - i) (cur1, np1, nq1, nd1, pu1, P1)) → 48 - i < n → G p l e rm_X4_readInto s m args below meth cd D A 0 0 Q 4 [(ht, .inr (4, [.ref hb, .int (nI tl), .int (nI cur1)])), (hb, .inl (cI, 48, .inl (fun k_ => nI (tx k_)))), (hp, o2 r (nI (tx 1 - 48)) np1 nq1 nd1), (r 0, .inl (cI, 3, .inl (fun k_ => nI (pu1 k_)))), (r 1, .inl (cI, 5, .inl (fun k_ => nI (P1 0 k_)))), (r 2, .inl (cI, 5, .inl (fun k_ => nI (P1 1 k_)))), (r 3, .inl (cI, 5, .inl (fun k_ => nI (P1 2 k_)))), (r 4, .inl (cI, 5, .inl (fun k_ => nI (P1 3 k_)))), (r 5, .inl (cI, 5, .inl (fun k_ => nI (P1 4 k_)))), (r 6, .inl (cI, 5, .inl (fun k_ => nI (P1 5 k_))))] 57 [(0, .ref ht), (1, .ref hp), (3, .int (nI i))] [] := by
          intro n
          induction n with
          | zero => intro i cur1 np1 nq1 nd1 pu1 P1 hi hb1 he hn; exact absurd hn (Nat.not_lt_zero _)
          | succ n ih57 =>
            intro i cur1 np1 nq1 nd1 pu1 P1 hi hb1 he hn
            refine g_iload_n hC 2 dX4_readInto_57 rfl rfl ?_
            refine g_bipush (v := nI 48) hC dX4_readInto_58 (by decide +kernel) ?_
            refine g_icmp_ge_n (a := i) (b := 48) hC (by omega) (by omega) 93 dX4_readInto_60 (by decide) (fun h60t => ?_) (fun h60f => ?_)
            · refine g_bipush (v := (-9)) hC dX4_readInto_93 (by decide +kernel) ?_
              subst hQ
              refine g_iret (v := -9) hC (nI (tx 1 - 48), cur1, np1, nq1, nd1, pu1, P1) hr ?_ rfl dX4_readInto_95
              have e : rdA tx tl pu P = ((rdL tx tl 48 (2, 0, 0, 0, pu, P)).1, tx 1 - 48, (rdL tx tl 48 (2, 0, 0, 0, pu, P)).2) := by rw [rdA, if_pos ⟨hz, h15t⟩, if_pos hf1]
              rw [e, he]
              rw [show 48 - i = 0 by omega]; exact ⟨rfl, rfl, rfl⟩
            refine g_aload_n hC 0 dX4_readInto_63 rfl rfl ?_
            refine g_get (C := RX4) (T := TX4) (N := 3) (ci := 4) (v := .int (nI cur1)) hC hcw4 0 rfl rfl 2 (by decide) w1 (fun _ h => h) rfl dX4_readInto_64 ?_
            refine g_aload_n hC 0 dX4_readInto_67 rfl rfl ?_
            refine g_get (C := RX4) (T := TX4) (N := 3) (ci := 4) (v := .int (nI tl)) hC hcw4 0 rfl rfl 1 (by decide) w2 (fun _ h => h) rfl dX4_readInto_68 ?_
            refine g_icmp_ge_n (a := cur1) (b := tl) hC (by omega) (by omega) 93 dX4_readInto_71 (by decide) (fun h71t => ?_) (fun h71f => ?_)
            · refine g_bipush (v := (-9)) hC dX4_readInto_93 (by decide +kernel) ?_
              subst hQ
              refine g_iret (v := -9) hC (nI (tx 1 - 48), cur1, np1, nq1, nd1, pu1, P1) hr ?_ rfl dX4_readInto_95
              have e : rdA tx tl pu P = ((rdL tx tl 48 (2, 0, 0, 0, pu, P)).1, tx 1 - 48, (rdL tx tl 48 (2, 0, 0, 0, pu, P)).2) := by rw [rdA, if_pos ⟨hz, h15t⟩, if_pos hf1]
              rw [e, he]
              obtain ⟨k, hk⟩ : ∃ k, 48 - i = k + 1 := ⟨47 - i, by omega⟩
              have e2 : rdL tx tl (k + 1) (cur1, np1, nq1, nd1, pu1, P1) = ((-9), (cur1, np1, nq1, nd1, pu1, P1)) := if_neg (by show ¬ cur1 < tl; omega)
              rw [hk, e2]; exact ⟨rfl, rfl, rfl⟩
            refine g_aload_n hC 0 dX4_readInto_74 rfl rfl ?_
            refine g_aload_n hC 1 dX4_readInto_75 rfl rfl ?_
            refine g_callVi (As := [.ref hp]) (rest := []) hC (c_X4_readThing l D cI cZ ht hb tx tl cur1 hp r (nI (tx 1 - 48)) np1 nq1 nd1 pu1 P1 (by first | assumption | omega) (by first | assumption | omega) h71f hb1.2.1 hb1.2.2.1 hb1.2.2.2) (cwV 1 hC.1.2.2.2.2 gX4_readInto_X4_readThing rfl rfl rfl dV_X4_readThing ⟨Nat.le_of_ble_eq_true rfl, Nat.le_of_ble_eq_true rfl⟩) rfl rfl rfl rfl (Nat.le_of_ble_eq_true rfl) dX4_readInto_76 ⟨Nat.le_of_ble_eq_true rfl, Nat.le_of_ble_eq_true rfl⟩ [0, 1, 2, 3, 4, 5, 6, 7, 8, 9] [] [0, 1, 2, 3, 4, 5, 6, 7, 8, 9] (fun (z : Nat × Nat × Nat × Nat × (Nat → Nat) × (Nat → Nat → Nat)) => match z with | (cur2_1, np2_2, nq2_3, nd2_4, pu2_5, P2_6) => [(ht, .inr (4, [.ref hb, .int (nI tl), .int (nI cur2_1)])), (hb, .inl (cI, 48, .inl (fun k_ => nI (tx k_)))), (hp, o2 r (nI (tx 1 - 48)) np2_2 nq2_3 nd2_4), (r 0, .inl (cI, 3, .inl (fun k_ => nI (pu2_5 k_)))), (r 1, .inl (cI, 5, .inl (fun k_ => nI (P2_6 0 k_)))), (r 2, .inl (cI, 5, .inl (fun k_ => nI (P2_6 1 k_)))), (r 3, .inl (cI, 5, .inl (fun k_ => nI (P2_6 2 k_)))), (r 4, .inl (cI, 5, .inl (fun k_ => nI (P2_6 3 k_)))), (r 5, .inl (cI, 5, .inl (fun k_ => nI (P2_6 4 k_)))), (r 6, .inl (cI, 5, .inl (fun k_ => nI (P2_6 5 k_))))]) rfl rfl rfl (fun _ => rfl) (fun r76 z76 hp76 => ?_)
            obtain ⟨cur2_1, np2_2, nq2_3, nd2_4, pu2_5, P2_6⟩ := z76
            try dsimp only at hp76
            refine g_is (ws2 := [(ht, .inr (4, [.ref hb, .int (nI tl), .int (nI cur2_1)])), (hb, .inl (cI, 48, .inl (fun k_ => nI (tx k_)))), (hp, o2 r (nI (tx 1 - 48)) np2_2 nq2_3 nd2_4), (r 0, .inl (cI, 3, .inl (fun k_ => nI (pu2_5 k_)))), (r 1, .inl (cI, 5, .inl (fun k_ => nI (P2_6 0 k_)))), (r 2, .inl (cI, 5, .inl (fun k_ => nI (P2_6 1 k_)))), (r 3, .inl (cI, 5, .inl (fun k_ => nI (P2_6 2 k_)))), (r 4, .inl (cI, 5, .inl (fun k_ => nI (P2_6 3 k_)))), (r 5, .inl (cI, 5, .inl (fun k_ => nI (P2_6 4 k_)))), (r 6, .inl (cI, 5, .inl (fun k_ => nI (P2_6 5 k_))))]) (lv2 := [(0, .ref ht), (1, .ref hp), (3, .int (nI i))]) (st2 := [.int r76]) rfl rfl rfl ?_
            refine g_top (y := bI ((rdT tx tl (cur1, np1, nq1, nd1, pu1, P1)).1 = true)) hp76.1 ?_
            refine g_if_ne_b hC 87 dX4_readInto_79 (by decide) (fun h79t => ?_) (fun h79f => ?_)
            · refine g_iinc (v := nI (i + 1)) (lv' := [(0, .ref ht), (1, .ref hp), (3, .int (nI (i + 1)))]) hC 2 [1, 2, 0] dX4_readInto_87 rfl (nI_add _ 1) (by decide) rfl ?_
              refine g_goto hC 57 dX4_readInto_90 (by decide) ?_
              refine ih57 (i + 1) cur2_1 np2_2 nq2_3 nd2_4 pu2_5 P2_6 ?_ ?_ ?_ ?_
              · omega
              · obtain ⟨q1, q2, q3, q4, q5, q6⟩ := rdT_bd h71f hb1.2.1 hb1.2.2.1 hb1.2.2.2 hp76.2
                exact ⟨q2, q3, q4, q5⟩
              · rw [he, hp76.2]
                obtain ⟨k, hk⟩ : ∃ k, 48 - i = k + 1 := ⟨47 - i, by omega⟩
                rw [hk, show 48 - (i + 1) = k by omega]
                show (if _ then _ else _) = _
                rw [if_pos h71f, if_pos h79t]
              · omega
            refine g_aload_n hC 0 dX4_readInto_82 rfl rfl ?_
            refine g_get (C := RX4) (T := TX4) (N := 3) (ci := 4) (v := .int (nI cur2_1)) hC hcw4 0 rfl rfl 2 (by decide) w1 (fun _ h => h) rfl dX4_readInto_83 ?_
            subst hQ
            refine g_iret (v := nI cur2_1) hC (nI (tx 1 - 48), cur2_1, np2_2, nq2_3, nd2_4, pu2_5, P2_6) hr ?_ rfl dX4_readInto_86
            have e : rdA tx tl pu P = ((rdL tx tl 48 (2, 0, 0, 0, pu, P)).1, tx 1 - 48, (rdL tx tl 48 (2, 0, 0, 0, pu, P)).2) := by rw [rdA, if_pos ⟨hz, h15t⟩, if_pos hf1]
            rw [e, he]
            obtain ⟨k, hk⟩ : ∃ k, 48 - i = k + 1 := ⟨47 - i, by omega⟩
            have e2 : rdL tx tl (k + 1) (cur1, np1, nq1, nd1, pu1, P1) = (nI (rdT tx tl (cur1, np1, nq1, nd1, pu1, P1)).2.1, (rdT tx tl (cur1, np1, nq1, nd1, pu1, P1)).2) := by
              show (if _ then _ else _) = _
              rw [if_pos h71f, if_neg h79f]
            rw [hk, e2, ← hp76.2]; exact ⟨rfl, rfl, rfl⟩
        refine g_lv [0, 1, 3] (lv2 := [(0, .ref ht), (1, .ref hp), (3, .int (nI 0))]) rfl ?_
        refine L57 _ 0 2 0 0 0 pu P ?_ ?_ ?_ (Nat.lt_succ_self _)
        · omega
        · refine ⟨?_, ?_, ?_, ?_⟩ <;> omega
        · rfl
      have hf1 := figV_f htx h42f
      have efld : (figC tx tl (0 + 1) 0 9 : Nat) = 1 := by rw [figC_n hf1]
      refine g_ws (ws2 := [(ht, .inr (4, [.ref hb, .int (nI tl), .int (nI 1)])), (hb, .inl (cI, 48, .inl (fun k_ => nI (tx k_)))), (hp, o2 r (nI 0) 0 0 0), (r 0, .inl (cI, 3, .inl (fun k_ => nI (pu k_)))), (r 1, .inl (cI, 5, .inl (fun k_ => nI (P 0 k_)))), (r 2, .inl (cI, 5, .inl (fun k_ => nI (P 1 k_)))), (r 3, .inl (cI, 5, .inl (fun k_ => nI (P 2 k_)))), (r 4, .inl (cI, 5, .inl (fun k_ => nI (P 3 k_)))), (r 5, .inl (cI, 5, .inl (fun k_ => nI (P 4 k_)))), (r 6, .inl (cI, 5, .inl (fun k_ => nI (P 5 k_))))]) (congrArg (fun zz : Nat => ([(ht, .inr (4, [.ref hb, .int (nI tl), .int (nI zz)])), (hb, .inl (cI, 48, .inl (fun k_ => nI (tx k_)))), (hp, o2 r (nI 0) 0 0 0), (r 0, .inl (cI, 3, .inl (fun k_ => nI (pu k_)))), (r 1, .inl (cI, 5, .inl (fun k_ => nI (P 0 k_)))), (r 2, .inl (cI, 5, .inl (fun k_ => nI (P 1 k_)))), (r 3, .inl (cI, 5, .inl (fun k_ => nI (P 2 k_)))), (r 4, .inl (cI, 5, .inl (fun k_ => nI (P 3 k_)))), (r 5, .inl (cI, 5, .inl (fun k_ => nI (P 4 k_)))), (r 6, .inl (cI, 5, .inl (fun k_ => nI (P 5 k_))))] : va_W)) efld) ?_
      refine g_aload_n hC 0 dX4_readInto_45 rfl rfl ?_
      refine g_get (C := RX4) (T := TX4) (N := 3) (ci := 4) (v := .int (nI 1)) hC hcw4 0 rfl rfl 2 (by decide) w1 (fun _ h => h) rfl dX4_readInto_46 ?_
      subst hQ
      refine g_iret (v := nI 1) hC (nI 0, 1, 0, 0, 0, pu, P) hr ?_ rfl dX4_readInto_49
      have e : rdA tx tl pu P = (nI 1, 0, 1, 0, 0, 0, pu, P) := by rw [rdA, if_pos ⟨hz, h15t⟩, if_neg hf1]
      rw [e]; exact ⟨rfl, rfl, rfl⟩
    refine g_aload_n hC 0 dX4_readInto_18 rfl rfl ?_
    refine g_get (C := RX4) (T := TX4) (N := 3) (ci := 4) (v := .int (nI 0)) hC hcw4 0 rfl rfl 2 (by decide) w1 (fun _ h => h) rfl dX4_readInto_19 ?_
    subst hQ
    refine g_iret (v := nI 0) hC (nI 0, 0, 0, 0, 0, pu, P) hr ?_ rfl dX4_readInto_22
    have e : rdA tx tl pu P = (nI 0, 0, 0, 0, 0, 0, pu, P) := if_neg (fun q => h15f q.2)
    rw [e]; exact ⟨rfl, rfl, rfl⟩
  refine g_callVip (As := []) (rest := []) hC (-1) (c_X4_upcoming_no l D cI cZ ht hb tx tl 0 (by first | assumption | omega) (Nat.not_lt.mp hz) (by first | assumption | omega)) (cwV 0 hC.1.2.2.2.2 gX4_readInto_X4_upcoming rfl rfl rfl dV_X4_upcoming ⟨Nat.le_of_ble_eq_true rfl, Nat.le_of_ble_eq_true rfl⟩) rfl rfl rfl rfl (Nat.le_of_ble_eq_true rfl) dX4_readInto_10 ⟨Nat.le_of_ble_eq_true rfl, Nat.le_of_ble_eq_true rfl⟩ [0, 1] rfl rfl ?_
  refine g_bipush (v := nI 66) hC dX4_readInto_13 (by decide +kernel) ?_
  refine g_icmp_eq hC 23 dX4_readInto_15 (by decide) (fun h15t => ?_) (fun h15f => ?_)
  · exact absurd h15t.symm (nI_ne1 (by decide))
  refine g_aload_n hC 0 dX4_readInto_18 rfl rfl ?_
  refine g_get (C := RX4) (T := TX4) (N := 3) (ci := 4) (v := .int (nI 0)) hC hcw4 0 rfl rfl 2 (by decide) w1 (fun _ h => h) rfl dX4_readInto_19 ?_
  subst hQ
  refine g_iret (v := nI 0) hC (nI 0, 0, 0, 0, 0, pu, P) hr ?_ rfl dX4_readInto_22
  have e : rdA tx tl pu P = (nI 0, 0, 0, 0, 0, 0, pu, P) := if_neg (fun q => hz q.1)
  rw [e]; exact ⟨rfl, rfl, rfl⟩
