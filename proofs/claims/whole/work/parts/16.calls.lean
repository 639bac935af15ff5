abbrev rm_X5_write : Room := { frames := 2, cells := 0, slots := 0, locals := 43 }
set_option maxRecDepth 100000 in
set_option maxHeartbeats 4000000 in
theorem c_X5_write (l : Launch) (D : va_G) (cI cZ : ClassId) (xo : Nat) (xt : Nat) (xp : Nat) (xd : Nat) (xn : Nat) (xa : Nat) (xc : Nat) (xs : Nat) (xk : Nat) (ks : Int32) (ch : Int64) (xtb : Nat) (tx : Nat → Nat) (tl : Nat) (cur : Nat) (a : Int32) (hl : tl ≤ 48) : CtI l yX5_write wsX5_write rm_X5_write D cI cZ [.ref xo, .int a] [(xo, o5 xt xp xd xn xa xc xs xk ks ch), (xt, .inr (4, [.ref xtb, .int (nI tl), .int (nI cur)])), (xtb, .inl (cI, 48, .inl (fun k_ => nI (tx k_))))] (fun r (_ : Unit) => r = wrR tl a) (fun (_ : Unit) => [(xo, o5 xt xp xd xn xa xc xs xk ks ch), (xt, .inr (4, [.ref xtb, .int (nI (wrL tl a)), .int (nI cur)])), (xtb, .inl (cI, 48, .inl (fun k_ => nI (wrX tx tl a k_))))]) 0 0 := by
  refine g_startI (ret := (some .int)) (own := RX5) (lv0 := [(0, .ref xo), (1, .int a)]) (by decide) rfl rfl (Nat.le_of_ble_eq_true rfl) rfl ?_
  intro p e s m args below meth cd A Q hin hr hQ hC
  have hcw4 : ∀ w ∈ wsX40, w ∈ wsX5_write := fun _ h => List.mem_cons_of_mem _ (List.mem_append_right _ h)
  have hcw5 : ∀ w ∈ wsX50, w ∈ wsX5_write := fun _ h => List.mem_cons_of_mem _ (List.mem_append_left _ (List.mem_append_right _ h))
  have w1 := hC.1.2.2.2.2 (.fieldLink "PluckBroker" 12 "PluckBroker" "text" "LPluckBroker$Text;") (List.mem_of_getElem? (i := 1) rfl)
  refine g_iload_n hC 1 dX5_write_0 rfl rfl ?_
  refine g_if_lt hC 11 dX5_write_1 (by decide) (fun h1t => ?_) (fun h1f => ?_)
  · have no : ¬ okL a := fun q => absurd q.1 (Int32.not_le.mpr h1t)
    have ecell : (fun k_ => nI (tx k_)) = (fun k_ => nI (wrX tx tl a k_)) := by rw [wrX, if_neg no]
    refine g_ws (ws2 := [(xo, o5 xt xp xd xn xa xc xs xk ks ch), (xt, .inr (4, [.ref xtb, .int (nI tl), .int (nI cur)])), (xtb, .inl (cI, 48, .inl (fun k_ => nI (wrX tx tl a k_))))]) (congrArg (fun zz : Nat → Int32 => ([(xo, o5 xt xp xd xn xa xc xs xk ks ch), (xt, .inr (4, [.ref xtb, .int (nI tl), .int (nI cur)])), (xtb, .inl (cI, 48, .inl zz))] : va_W)) ecell) ?_
    have efld : (tl : Nat) = wrL tl a := by rw [wrL, if_neg no]
    refine g_ws (ws2 := [(xo, o5 xt xp xd xn xa xc xs xk ks ch), (xt, .inr (4, [.ref xtb, .int (nI (wrL tl a)), .int (nI cur)])), (xtb, .inl (cI, 48, .inl (fun k_ => nI (wrX tx tl a k_))))]) (congrArg (fun zz : Nat => ([(xo, o5 xt xp xd xn xa xc xs xk ks ch), (xt, .inr (4, [.ref xtb, .int (nI zz), .int (nI cur)])), (xtb, .inl (cI, 48, .inl (fun k_ => nI (wrX tx tl a k_))))] : va_W)) efld) ?_
    refine g_bipush (v := (-2)) hC dX5_write_11 (by decide +kernel) ?_
    subst hQ
    refine g_iret (v := -2) hC () hr ?_ rfl dX5_write_13
    rw [wrR, if_neg no]
  refine g_iload_n hC 1 dX5_write_4 rfl rfl ?_
  refine g_sipush (v := nI 255) hC dX5_write_5 (by decide +kernel) ?_
  refine g_icmp_le hC 14 dX5_write_8 (by decide) (fun h8t => ?_) (fun h8f => ?_)
  · obtain ⟨v, hv, rfl⟩ := ok_n (M := 255) (by decide) ⟨Int32.not_lt.mp h1f, h8t⟩
    have ok : okL (nI v) := ok_k (M := 255) (by decide) hv
    refine g_aload_n hC 0 dX5_write_14 rfl rfl ?_
    refine g_get (C := RX5) (T := TX5) (N := 10) (ci := 5) (v := .ref xt) hC hcw5 0 rfl rfl 0 (by decide) w1 (fun _ h => h) rfl dX5_write_15 ?_
    refine g_getN (C := RX4) (T := TX4) (N := 3) (ci := 4) (v := .int (nI tl)) hC hcw4 1 rfl rfl 1 (by decide) (hC.2.2.1.f 0 rfl) (fun _ h => h) rfl dX5_write_18 ?_
    refine g_bipush (v := nI 48) hC dX5_write_21 (by decide +kernel) ?_
    refine g_icmp_lt_n (a := tl) (b := 48) hC (by omega) (by omega) 29 dX5_write_23 (by decide) (fun h23t => ?_) (fun h23f => ?_)
    · refine g_aload_n hC 0 dX5_write_29 rfl rfl ?_
      refine g_get (C := RX5) (T := TX5) (N := 10) (ci := 5) (v := .ref xt) hC hcw5 0 rfl rfl 0 (by decide) w1 (fun _ h => h) rfl dX5_write_30 ?_
      refine g_iload_n hC 1 dX5_write_33 rfl rfl ?_
      refine g_callVv (As := [.int (nI v)]) (rest := []) hC (c_X4_append l D cI cZ xt xtb tx tl cur v (by first | assumption | omega)) (cwV 1 hC.1.2.2.2.2 gX5_write_X4_append rfl rfl rfl dV_X4_append ⟨Nat.le_of_ble_eq_true rfl, Nat.le_of_ble_eq_true rfl⟩) rfl rfl rfl rfl (Nat.le_of_ble_eq_true rfl) dX5_write_34 ⟨Nat.le_of_ble_eq_true rfl, Nat.le_of_ble_eq_true rfl⟩ [1, 2] [0] [0, 1, 2] (fun (_ : Unit) => [(xo, o5 xt xp xd xn xa xc xs xk ks ch), (xt, .inr (4, [.ref xtb, .int (nI (tl + 1)), .int (nI cur)])), (xtb, .inl (cI, 48, .inl (fun k_ => nI (up1 tx tl v k_))))]) rfl rfl rfl (fun _ => rfl) (fun z34 hp34 => ?_)
      refine g_is (ws2 := [(xo, o5 xt xp xd xn xa xc xs xk ks ch), (xt, .inr (4, [.ref xtb, .int (nI (tl + 1)), .int (nI cur)])), (xtb, .inl (cI, 48, .inl (fun k_ => nI (up1 tx tl v k_))))]) (lv2 := [(0, .ref xo), (1, .int (nI v))]) (st2 := []) rfl rfl rfl ?_
      refine g_aload_n hC 0 dX5_write_37 rfl rfl ?_
      refine g_get (C := RX5) (T := TX5) (N := 10) (ci := 5) (v := .ref xt) hC hcw5 0 rfl rfl 0 (by decide) w1 (fun _ h => h) rfl dX5_write_38 ?_
      refine g_getN (C := RX4) (T := TX4) (N := 3) (ci := 4) (v := .int (nI (tl + 1))) hC hcw4 1 rfl rfl 1 (by decide) (hC.2.2.1.f 0 rfl) (fun _ h => h) rfl dX5_write_41 ?_
      have ecell : (fun k_ => nI (up1 tx tl v k_)) = (fun k_ => nI (wrX tx tl (nI v) k_)) := by rw [wrX, if_pos ok, if_pos h23t, K_n (by omega)]
      refine g_ws (ws2 := [(xo, o5 xt xp xd xn xa xc xs xk ks ch), (xt, .inr (4, [.ref xtb, .int (nI (tl + 1)), .int (nI cur)])), (xtb, .inl (cI, 48, .inl (fun k_ => nI (wrX tx tl (nI v) k_))))]) (congrArg (fun zz : Nat → Int32 => ([(xo, o5 xt xp xd xn xa xc xs xk ks ch), (xt, .inr (4, [.ref xtb, .int (nI (tl + 1)), .int (nI cur)])), (xtb, .inl (cI, 48, .inl zz))] : va_W)) ecell) ?_
      have efld : (tl + 1 : Nat) = wrL tl (nI v) := by rw [wrL, if_pos ok, if_pos h23t]
      refine g_ws (ws2 := [(xo, o5 xt xp xd xn xa xc xs xk ks ch), (xt, .inr (4, [.ref xtb, .int (nI (wrL tl (nI v))), .int (nI cur)])), (xtb, .inl (cI, 48, .inl (fun k_ => nI (wrX tx tl (nI v) k_))))]) (congrArg (fun zz : Nat => ([(xo, o5 xt xp xd xn xa xc xs xk ks ch), (xt, .inr (4, [.ref xtb, .int (nI zz), .int (nI cur)])), (xtb, .inl (cI, 48, .inl (fun k_ => nI (wrX tx tl (nI v) k_))))] : va_W)) efld) ?_
      subst hQ
      refine g_iret (v := nI (tl + 1)) hC () hr ?_ rfl dX5_write_44
      rw [wrR, if_pos ok, if_pos h23t]
    have ecell : (fun k_ => nI (tx k_)) = (fun k_ => nI (wrX tx tl (nI v) k_)) := by rw [wrX, if_pos ok, if_neg (by omega)]
    refine g_ws (ws2 := [(xo, o5 xt xp xd xn xa xc xs xk ks ch), (xt, .inr (4, [.ref xtb, .int (nI tl), .int (nI cur)])), (xtb, .inl (cI, 48, .inl (fun k_ => nI (wrX tx tl (nI v) k_))))]) (congrArg (fun zz : Nat → Int32 => ([(xo, o5 xt xp xd xn xa xc xs xk ks ch), (xt, .inr (4, [.ref xtb, .int (nI tl), .int (nI cur)])), (xtb, .inl (cI, 48, .inl zz))] : va_W)) ecell) ?_
    have efld : (tl : Nat) = wrL tl (nI v) := by rw [wrL, if_pos ok, if_neg (by omega)]
    refine g_ws (ws2 := [(xo, o5 xt xp xd xn xa xc xs xk ks ch), (xt, .inr (4, [.ref xtb, .int (nI (wrL tl (nI v))), .int (nI cur)])), (xtb, .inl (cI, 48, .inl (fun k_ => nI (wrX tx tl (nI v) k_))))]) (congrArg (fun zz : Nat => ([(xo, o5 xt xp xd xn xa xc xs xk ks ch), (xt, .inr (4, [.ref xtb, .int (nI zz), .int (nI cur)])), (xtb, .inl (cI, 48, .inl (fun k_ => nI (wrX tx tl (nI v) k_))))] : va_W)) efld) ?_
    refine g_bipush (v := (-4)) hC dX5_write_26 (by decide +kernel) ?_
    subst hQ
    refine g_iret (v := -4) hC () hr ?_ rfl dX5_write_28
    rw [wrR, if_pos ok, if_neg (by omega)]
  have no : ¬ okL a := fun q => absurd q.2 h8f
  have ecell : (fun k_ => nI (tx k_)) = (fun k_ => nI (wrX tx tl a k_)) := by rw [wrX, if_neg no]
  refine g_ws (ws2 := [(xo, o5 xt xp xd xn xa xc xs xk ks ch), (xt, .inr (4, [.ref xtb, .int (nI tl), .int (nI cur)])), (xtb, .inl (cI, 48, .inl (fun k_ => nI (wrX tx tl a k_))))]) (congrArg (fun zz : Nat → Int32 => ([(xo, o5 xt xp xd xn xa xc xs xk ks ch), (xt, .inr (4, [.ref xtb, .int (nI tl), .int (nI cur)])), (xtb, .inl (cI, 48, .inl zz))] : va_W)) ecell) ?_
  have efld : (tl : Nat) = wrL tl a := by rw [wrL, if_neg no]
  refine g_ws (ws2 := [(xo, o5 xt xp xd xn xa xc xs xk ks ch), (xt, .inr (4, [.ref xtb, .int (nI (wrL tl a)), .int (nI cur)])), (xtb, .inl (cI, 48, .inl (fun k_ => nI (wrX tx tl a k_))))]) (congrArg (fun zz : Nat => ([(xo, o5 xt xp xd xn xa xc xs xk ks ch), (xt, .inr (4, [.ref xtb, .int (nI zz), .int (nI cur)])), (xtb, .inl (cI, 48, .inl (fun k_ => nI (wrX tx tl a k_))))] : va_W)) efld) ?_
  refine g_bipush (v := (-2)) hC dX5_write_11 (by decide +kernel) ?_
  subst hQ
  refine g_iret (v := -2) hC () hr ?_ rfl dX5_write_13
  rw [wrR, if_neg no]

abbrev rm_X5_wipe : Room := { frames := 0, cells := 0, slots := 0, locals := 0 }
set_option maxRecDepth 100000 in
set_option maxHeartbeats 4000000 in
theorem c_X5_wipe (l : Launch) (D : va_G) (cI cZ : ClassId) (xo : Nat) (xt : Nat) (xp : Nat) (xd : Nat) (xn : Nat) (xa : Nat) (xc : Nat) (xs : Nat) (xk : Nat) (ks : Int32) (ch : Int64) (xtb : Nat) (tx : Nat → Nat) (tl : Nat) (cur : Nat) : CtI l yX5_wipe wsX5_wipe rm_X5_wipe D cI cZ [.ref xo] [(xo, o5 xt xp xd xn xa xc xs xk ks ch), (xt, .inr (4, [.ref xtb, .int (nI tl), .int (nI cur)])), (xtb, .inl (cI, 48, .inl (fun k_ => nI (tx k_))))] (fun r (_ : Unit) => r = nI tl) (fun (_ : Unit) => [(xo, o5 xt xp xd xn xa xc xs xk ks ch), (xt, .inr (4, [.ref xtb, .int (nI 0), .int (nI cur)])), (xtb, .inl (cI, 48, .inl (fun k_ => nI (tx k_))))]) 0 0 := by
  refine g_startI (ret := (some .int)) (own := RX5) (lv0 := [(0, .ref xo)]) (by decide) rfl rfl (Nat.le_of_ble_eq_true rfl) rfl ?_
  intro p e s m args below meth cd A Q hin hr hQ hC
  have hcw4 : ∀ w ∈ wsX40, w ∈ wsX5_wipe := fun _ h => List.mem_cons_of_mem _ (List.mem_append_right _ h)
  have hcw5 : ∀ w ∈ wsX50, w ∈ wsX5_wipe := fun _ h => List.mem_cons_of_mem _ (List.mem_append_left _ (List.mem_append_right _ h))
  have w1 := hC.1.2.2.2.2 (.fieldLink "PluckBroker" 12 "PluckBroker" "text" "LPluckBroker$Text;") (List.mem_of_getElem? (i := 1) rfl)
  refine g_aload_n hC 0 dX5_wipe_0 rfl rfl ?_
  refine g_get (C := RX5) (T := TX5) (N := 10) (ci := 5) (v := .ref xt) hC hcw5 0 rfl rfl 0 (by decide) w1 (fun _ h => h) rfl dX5_wipe_1 ?_
  refine g_getN (C := RX4) (T := TX4) (N := 3) (ci := 4) (v := .int (nI tl)) hC hcw4 1 rfl rfl 1 (by decide) (hC.2.2.1.f 0 rfl) (fun _ h => h) rfl dX5_wipe_4 ?_
  refine g_istore_n (lv' := [(0, .ref xo), (1, .int (nI tl))]) hC [1, 0] dX5_wipe_7 rfl (by decide) rfl ?_
  refine g_aload_n hC 0 dX5_wipe_8 rfl rfl ?_
  refine g_get (C := RX5) (T := TX5) (N := 10) (ci := 5) (v := .ref xt) hC hcw5 0 rfl rfl 0 (by decide) w1 (fun _ h => h) rfl dX5_wipe_9 ?_
  refine g_iconst (v := nI 0) hC dX5_wipe_12 rfl ?_
  refine g_putN (C := RX4) (T := TX4) (N := 3) (ci := 4) (v := .int (nI 0)) hC hcw4 tyX4 tyX4_ok nmX4 1 rfl rfl 1 (by decide) (hC.2.2.1.f 0 rfl) (fun _ h => h) rfl (tyX4_ok 1 (by decide)) rfl rfl (Nat.le_of_ble_eq_true rfl) [(xo, o5 xt xp xd xn xa xc xs xk ks ch), (xt, .inr (4, [.ref xtb, .int (nI 0), .int (nI cur)])), (xtb, .inl (cI, 48, .inl (fun k_ => nI (tx k_))))] rfl dX5_wipe_13 ?_
  refine g_iload_n hC 1 dX5_wipe_16 rfl rfl ?_
  subst hQ
  refine g_iret (v := nI tl) hC () hr ?_ rfl dX5_wipe_17
  rfl

abbrev rm_X5_fault : Room := { frames := 6, cells := 0, slots := 0, locals := 133 }
set_option maxRecDepth 100000 in
set_option maxHeartbeats 4000000 in
theorem c_X5_fault (l : Launch) (D : va_G) (cI cZ : ClassId) (xo : Nat) (xt : Nat) (xp : Nat) (xd : Nat) (xn : Nat) (xa : Nat) (xc : Nat) (xs : Nat) (xk : Nat) (ks : Int32) (ch : Int64) (xtb : Nat) (tx : Nat → Nat) (tl : Nat) (cur : Nat) (r : Nat → Nat) (ti : Int32) (np : Nat) (nq : Nat) (nd : Nat) (pu : Nat → Nat) (P : Nat → Nat → Nat) (hl : tl ≤ 48) (htx : ∀ k, tx k < 256) : CtI l yX5_fault wsX5_fault rm_X5_fault D cI cZ [.ref xo] [(xo, o5 xt xp xd xn xa xc xs xk ks ch), (xt, .inr (4, [.ref xtb, .int (nI tl), .int (nI cur)])), (xtb, .inl (cI, 48, .inl (fun k_ => nI (tx k_)))), (xd, o2 r ti np nq nd), (r 0, .inl (cI, 3, .inl (fun k_ => nI (pu k_)))), (r 1, .inl (cI, 5, .inl (fun k_ => nI (P 0 k_)))), (r 2, .inl (cI, 5, .inl (fun k_ => nI (P 1 k_)))), (r 3, .inl (cI, 5, .inl (fun k_ => nI (P 2 k_)))), (r 4, .inl (cI, 5, .inl (fun k_ => nI (P 3 k_)))), (r 5, .inl (cI, 5, .inl (fun k_ => nI (P 4 k_)))), (r 6, .inl (cI, 5, .inl (fun k_ => nI (P 5 k_))))] (fun (r : Int32) (z : Int32 × Nat × Nat × Nat × Nat × (Nat → Nat) × (Nat → Nat → Nat)) => match z with | (ti2, cur2, np2, nq2, nd2, pu2, P2) => r = (rdA tx tl pu P).1) (fun (z : Int32 × Nat × Nat × Nat × Nat × (Nat → Nat) × (Nat → Nat → Nat)) => match z with | (ti2, cur2, np2, nq2, nd2, pu2, P2) => [(xo, o5 xt xp xd xn xa xc xs xk ks ch), (xt, .inr (4, [.ref xtb, .int (nI tl), .int (nI cur2)])), (xtb, .inl (cI, 48, .inl (fun k_ => nI (tx k_)))), (xd, o2 r ti2 np2 nq2 nd2), (r 0, .inl (cI, 3, .inl (fun k_ => nI (pu2 k_)))), (r 1, .inl (cI, 5, .inl (fun k_ => nI (P2 0 k_)))), (r 2, .inl (cI, 5, .inl (fun k_ => nI (P2 1 k_)))), (r 3, .inl (cI, 5, .inl (fun k_ => nI (P2 2 k_)))), (r 4, .inl (cI, 5, .inl (fun k_ => nI (P2 3 k_)))), (r 5, .inl (cI, 5, .inl (fun k_ => nI (P2 4 k_)))), (r 6, .inl (cI, 5, .inl (fun k_ => nI (P2 5 k_))))]) 0 0 := by
  refine g_startI (ret := (some .int)) (own := RX5) (lv0 := [(0, .ref xo)]) (by decide) rfl rfl (Nat.le_of_ble_eq_true rfl) rfl ?_
  intro p e s m args below meth cd A Q hin hr hQ hC
  have hcw5 : ∀ w ∈ wsX50, w ∈ wsX5_fault := fun _ h => List.mem_cons_of_mem _ (List.mem_append_left _ (List.mem_append_left _ (List.mem_append_right _ h)))
  have w1 := hC.1.2.2.2.2 (.fieldLink "PluckBroker" 12 "PluckBroker" "text" "LPluckBroker$Text;") (List.mem_of_getElem? (i := 1) rfl)
  have w2 := hC.1.2.2.2.2 (.fieldLink "PluckBroker" 23 "PluckBroker" "draft" "LPluckBroker$Plan;") (List.mem_of_getElem? (i := 2) rfl)
  refine g_aload_n hC 0 dX5_fault_0 rfl rfl ?_
  refine g_get (C := RX5) (T := TX5) (N := 10) (ci := 5) (v := .ref xt) hC hcw5 0 rfl rfl 0 (by decide) w1 (fun _ h => h) rfl dX5_fault_1 ?_
  refine g_aload_n hC 0 dX5_fault_4 rfl rfl ?_
  refine g_get (C := RX5) (T := TX5) (N := 10) (ci := 5) (v := .ref xd) hC hcw5 0 rfl rfl 2 (by decide) w2 (fun _ h => h) rfl dX5_fault_5 ?_
  refine g_callVi (As := [.ref xd]) (rest := []) hC (c_X4_readInto l D cI cZ xt xtb tx tl cur xd r ti np nq nd pu P (by first | assumption | omega) (by first | assumption | omega)) (cwV 1 hC.1.2.2.2.2 gX5_fault_X4_readInto rfl rfl rfl dV_X4_readInto ⟨Nat.le_of_ble_eq_true rfl, Nat.le_of_ble_eq_true rfl⟩) rfl rfl rfl rfl (Nat.le_of_ble_eq_true rfl) dX5_fault_8 ⟨Nat.le_of_ble_eq_true rfl, Nat.le_of_ble_eq_true rfl⟩ [1, 2, 3, 4, 5, 6, 7, 8, 9, 10] [0] [0, 1, 2, 3, 4, 5, 6, 7, 8, 9, 10] (fun (z : Int32 × Nat × Nat × Nat × Nat × (Nat → Nat) × (Nat → Nat → Nat)) => match z with | (ti2_1, cur2_2, np2_3, nq2_4, nd2_5, pu2_6, P2_7) => [(xo, o5 xt xp xd xn xa xc xs xk ks ch), (xt, .inr (4, [.ref xtb, .int (nI tl), .int (nI cur2_2)])), (xtb, .inl (cI, 48, .inl (fun k_ => nI (tx k_)))), (xd, o2 r ti2_1 np2_3 nq2_4 nd2_5), (r 0, .inl (cI, 3, .inl (fun k_ => nI (pu2_6 k_)))), (r 1, .inl (cI, 5, .inl (fun k_ => nI (P2_7 0 k_)))), (r 2, .inl (cI, 5, .inl (fun k_ => nI (P2_7 1 k_)))), (r 3, .inl (cI, 5, .inl (fun k_ => nI (P2_7 2 k_)))), (r 4, .inl (cI, 5, .inl (fun k_ => nI (P2_7 3 k_)))), (r 5, .inl (cI, 5, .inl (fun k_ => nI (P2_7 4 k_)))), (r 6, .inl (cI, 5, .inl (fun k_ => nI (P2_7 5 k_))))]) rfl rfl rfl (fun _ => rfl) (fun r8 z8 hp8 => ?_)
  obtain ⟨ti2_1, cur2_2, np2_3, nq2_4, nd2_5, pu2_6, P2_7⟩ := z8
  try dsimp only at hp8
  refine g_is (ws2 := [(xo, o5 xt xp xd xn xa xc xs xk ks ch), (xt, .inr (4, [.ref xtb, .int (nI tl), .int (nI cur2_2)])), (xtb, .inl (cI, 48, .inl (fun k_ => nI (tx k_)))), (xd, o2 r ti2_1 np2_3 nq2_4 nd2_5), (r 0, .inl (cI, 3, .inl (fun k_ => nI (pu2_6 k_)))), (r 1, .inl (cI, 5, .inl (fun k_ => nI (P2_7 0 k_)))), (r 2, .inl (cI, 5, .inl (fun k_ => nI (P2_7 1 k_)))), (r 3, .inl (cI, 5, .inl (fun k_ => nI (P2_7 2 k_)))), (r 4, .inl (cI, 5, .inl (fun k_ => nI (P2_7 3 k_)))), (r 5, .inl (cI, 5, .inl (fun k_ => nI (P2_7 4 k_)))), (r 6, .inl (cI, 5, .inl (fun k_ => nI (P2_7 5 k_))))]) (lv2 := [(0, .ref xo)]) (st2 := [.int r8]) rfl rfl rfl ?_
  subst hQ
  refine g_iret (v := r8) hC (ti2_1, cur2_2, np2_3, nq2_4, nd2_5, pu2_6, P2_7) hr ?_ rfl dX5_fault_11
  exact hp8.1

abbrev rm_X5_about : Room := { frames := 3, cells := 0, slots := 0, locals := 65 }
set_option maxRecDepth 100000 in
set_option maxHeartbeats 4000000 in
theorem c_X5_about (l : Launch) (D : va_G) (cI cZ : ClassId) (xo : Nat) (xt : Nat) (xp : Nat) (xd : Nat) (xn : Nat) (xa : Nat) (xc : Nat) (xs : Nat) (xk : Nat) (ks : Int32) (ch : Int64) (xnc : Nat) (c : Nat → Int32) (r : Nat → Nat) (ti : Int32) (np : Nat) (nq : Nat) (nd : Nat) (xcb : Nat) (f : Nat → Int32) (u : Nat) (cnt : Nat) (na : Nat) (xsd : Nat) (xsu : Nat) (xtb : Nat) (tl : Nat) (cur : Nat) (a : Int32) (h1 : np ≤ 3) (h2 : nq ≤ 5) (h3 : nd ≤ 5) : CtI l yX5_about wsX5_about rm_X5_about D cI cZ [.ref xo, .int a] [(xo, o5 xt xp xd xn xa xc xs xk ks ch), (xn, .inr (3, [.ref xp, .ref xnc])), (xnc, .inl (cI, 20, .inl c)), (xp, o2 r ti np nq nd), (xc, .inr (0, [.ref xcb, .int (nI u), .int (nI cnt)])), (xs, .inr (1, [.ref xsd, .ref xsu, .int (nI na)])), (xt, .inr (4, [.ref xtb, .int (nI tl), .int (nI cur)]))] (fun r (_ : Unit) => r = aboutR np nq nd c cnt na tl a) (fun (_ : Unit) => [(xo, o5 xt xp xd xn xa xc xs xk ks ch), (xn, .inr (3, [.ref xp, .ref xnc])), (xnc, .inl (cI, 20, .inl c)), (xp, o2 r ti np nq nd), (xc, .inr (0, [.ref xcb, .int (nI u), .int (nI cnt)])), (xs, .inr (1, [.ref xsd, .ref xsu, .int (nI na)])), (xt, .inr (4, [.ref xtb, .int (nI tl), .int (nI cur)]))]) 0 0 := by
  refine g_startI (ret := (some .int)) (own := RX5) (lv0 := [(0, .ref xo), (1, .int a)]) (by decide) rfl rfl (Nat.le_of_ble_eq_true rfl) rfl ?_
  intro p e s m args below meth cd A Q hin hr hQ hC
  have hcw0 : ∀ w ∈ wsX00, w ∈ wsX5_about := fun _ h => List.mem_cons_of_mem _ (List.mem_append_left _ (List.mem_append_left _ (List.mem_append_left _ (List.mem_append_right _ h))))
  have hcw1 : ∀ w ∈ wsX10, w ∈ wsX5_about := fun _ h => List.mem_cons_of_mem _ (List.mem_append_left _ (List.mem_append_left _ (List.mem_append_right _ h)))
  have hcw2 : ∀ w ∈ wsX20, w ∈ wsX5_about := fun _ h => List.mem_cons_of_mem _ (List.mem_append_left _ (List.mem_append_left _ (List.mem_append_left _ (List.mem_append_left _ (List.mem_append_right _ h)))))
  have hcw4 : ∀ w ∈ wsX40, w ∈ wsX5_about := fun _ h => List.mem_cons_of_mem _ (List.mem_append_left _ (List.mem_append_right _ h))
  have hcw5 : ∀ w ∈ wsX50, w ∈ wsX5_about := fun _ h => List.mem_cons_of_mem _ (List.mem_append_left _ (List.mem_append_left _ (List.mem_append_left _ (List.mem_append_left _ (List.mem_append_left _ (List.mem_append_right _ h))))))
  have w1 := hC.1.2.2.2.2 (.fieldLink "PluckBroker" 19 "PluckBroker" "plan" "LPluckBroker$Plan;") (List.mem_of_getElem? (i := 1) rfl)
  have w2 := hC.1.2.2.2.2 (.fieldLink "PluckBroker" 31 "PluckBroker" "now" "LPluckBroker$State;") (List.mem_of_getElem? (i := 2) rfl)
  have w3 := hC.1.2.2.2.2 (.fieldLink "PluckBroker" 41 "PluckBroker" "acts" "LPluckBroker$Acts;") (List.mem_of_getElem? (i := 3) rfl)
  have w4 := hC.1.2.2.2.2 (.fieldLink "PluckBroker" 48 "PluckBroker" "asked" "LPluckBroker$Asked;") (List.mem_of_getElem? (i := 4) rfl)
  have w5 := hC.1.2.2.2.2 (.fieldLink "PluckBroker" 12 "PluckBroker" "text" "LPluckBroker$Text;") (List.mem_of_getElem? (i := 5) rfl)
  refine g_iload_n hC 1 dX5_about_0 rfl rfl ?_
  by_cases k1_0 : a = nI 0
  · subst k1_0
    refine g_tableIn (off := 67) hC 68 dX5_about_1 (by decide +kernel) (by decide +kernel) (by decide +kernel) (by decide) ?_
    refine g_aload_n hC 0 dX5_about_68 rfl rfl ?_
    refine g_get (C := RX5) (T := TX5) (N := 10) (ci := 5) (v := .ref xp) hC hcw5 0 rfl rfl 1 (by decide) w1 (fun _ h => h) rfl dX5_about_69 ?_
    refine g_getN (C := RX2) (T := TX2) (N := 11) (ci := 2) (v := .int (nI np)) hC hcw2 3 rfl rfl 8 (by decide) (hC.2.2.1.f 5 rfl) (fun _ h => h) rfl dX5_about_72 ?_
    subst hQ
    refine g_iret (v := nI np) hC () hr ?_ rfl dX5_about_75
    rfl
  by_cases k1_1 : a = nI 1
  · subst k1_1
    refine g_tableIn (off := 75) hC 76 dX5_about_1 (by decide +kernel) (by decide +kernel) (by decide +kernel) (by decide) ?_
    refine g_aload_n hC 0 dX5_about_76 rfl rfl ?_
    refine g_get (C := RX5) (T := TX5) (N := 10) (ci := 5) (v := .ref xp) hC hcw5 0 rfl rfl 1 (by decide) w1 (fun _ h => h) rfl dX5_about_77 ?_
    refine g_getN (C := RX2) (T := TX2) (N := 11) (ci := 2) (v := .int (nI nq)) hC hcw2 3 rfl rfl 9 (by decide) (hC.2.2.1.f 7 rfl) (fun _ h => h) rfl dX5_about_80 ?_
    subst hQ
    refine g_iret (v := nI nq) hC () hr ?_ rfl dX5_about_83
    rfl
  by_cases k1_2 : a = nI 2
  · subst k1_2
    refine g_tableIn (off := 83) hC 84 dX5_about_1 (by decide +kernel) (by decide +kernel) (by decide +kernel) (by decide) ?_
    refine g_aload_n hC 0 dX5_about_84 rfl rfl ?_
    refine g_get (C := RX5) (T := TX5) (N := 10) (ci := 5) (v := .ref xp) hC hcw5 0 rfl rfl 1 (by decide) w1 (fun _ h => h) rfl dX5_about_85 ?_
    refine g_getN (C := RX2) (T := TX2) (N := 11) (ci := 2) (v := .int (nI nd)) hC hcw2 3 rfl rfl 10 (by decide) (hC.2.2.1.f 10 rfl) (fun _ h => h) rfl dX5_about_88 ?_
    subst hQ
    refine g_iret (v := nI nd) hC () hr ?_ rfl dX5_about_91
    rfl
  by_cases k1_3 : a = nI 3
  · subst k1_3
    refine g_tableIn (off := 91) hC 92 dX5_about_1 (by decide +kernel) (by decide +kernel) (by decide +kernel) (by decide) ?_
    refine g_aload_n hC 0 dX5_about_92 rfl rfl ?_
    refine g_get (C := RX5) (T := TX5) (N := 10) (ci := 5) (v := .ref xn) hC hcw5 0 rfl rfl 3 (by decide) w2 (fun _ h => h) rfl dX5_about_93 ?_
    refine g_callVip (As := []) (rest := []) hC (c 1) (c_X3_today l D cI cZ xn xp xnc c) (cwV 0 hC.1.2.2.2.2 gX5_about_X3_today rfl rfl rfl dV_X3_today ⟨Nat.le_of_ble_eq_true rfl, Nat.le_of_ble_eq_true rfl⟩) rfl rfl rfl rfl (Nat.le_of_ble_eq_true rfl) dX5_about_96 ⟨Nat.le_of_ble_eq_true rfl, Nat.le_of_ble_eq_true rfl⟩ [1, 2] rfl rfl ?_
    subst hQ
    refine g_iret (v := c 1) hC () hr ?_ rfl dX5_about_99
    rfl
  by_cases k1_4 : a = nI 4
  · subst k1_4
    refine g_tableIn (off := 99) hC 100 dX5_about_1 (by decide +kernel) (by decide +kernel) (by decide +kernel) (by decide) ?_
    refine g_aload_n hC 0 dX5_about_100 rfl rfl ?_
    refine g_get (C := RX5) (T := TX5) (N := 10) (ci := 5) (v := .ref xn) hC hcw5 0 rfl rfl 3 (by decide) w2 (fun _ h => h) rfl dX5_about_101 ?_
    refine g_callVip (As := []) (rest := []) hC (c 0) (c_X3_inTill l D cI cZ xn xp xnc c) (cwV 0 hC.1.2.2.2.2 gX5_about_X3_inTill rfl rfl rfl dV_X3_inTill ⟨Nat.le_of_ble_eq_true rfl, Nat.le_of_ble_eq_true rfl⟩) rfl rfl rfl rfl (Nat.le_of_ble_eq_true rfl) dX5_about_104 ⟨Nat.le_of_ble_eq_true rfl, Nat.le_of_ble_eq_true rfl⟩ [1, 2] rfl rfl ?_
    subst hQ
    refine g_iret (v := c 0) hC () hr ?_ rfl dX5_about_107
    rfl
  by_cases k1_5 : a = nI 5
  · subst k1_5
    refine g_tableIn (off := 107) hC 108 dX5_about_1 (by decide +kernel) (by decide +kernel) (by decide +kernel) (by decide) ?_
    refine g_aload_n hC 0 dX5_about_108 rfl rfl ?_
    refine g_get (C := RX5) (T := TX5) (N := 10) (ci := 5) (v := .ref xn) hC hcw5 0 rfl rfl 3 (by decide) w2 (fun _ h => h) rfl dX5_about_109 ?_
    refine g_iconst (v := nI 0) hC dX5_about_112 rfl ?_
    refine g_callVip (As := [.int (nI 0)]) (rest := []) hC (nI (thatAre nq c (nI 0))) (c_X3_qualitiesThatAre l D cI cZ xn xp xnc c r ti np nq nd (nI 0) (by first | assumption | omega)) (cwV 1 hC.1.2.2.2.2 gX5_about_X3_qualitiesThatAre rfl rfl rfl dV_X3_qualitiesThatAre ⟨Nat.le_of_ble_eq_true rfl, Nat.le_of_ble_eq_true rfl⟩) rfl rfl rfl rfl (Nat.le_of_ble_eq_true rfl) dX5_about_113 ⟨Nat.le_of_ble_eq_true rfl, Nat.le_of_ble_eq_true rfl⟩ [1, 2, 3] rfl rfl ?_
    subst hQ
    refine g_iret (v := nI (thatAre nq c (nI 0))) hC () hr ?_ rfl dX5_about_116
    rfl
  by_cases k1_6 : a = nI 6
  · subst k1_6
    refine g_tableIn (off := 116) hC 117 dX5_about_1 (by decide +kernel) (by decide +kernel) (by decide +kernel) (by decide) ?_
    refine g_aload_n hC 0 dX5_about_117 rfl rfl ?_
    refine g_get (C := RX5) (T := TX5) (N := 10) (ci := 5) (v := .ref xn) hC hcw5 0 rfl rfl 3 (by decide) w2 (fun _ h => h) rfl dX5_about_118 ?_
    refine g_iconst (v := nI 1) hC dX5_about_121 rfl ?_
    refine g_callVip (As := [.int (nI 1)]) (rest := []) hC (nI (thatAre nq c (nI 1))) (c_X3_qualitiesThatAre l D cI cZ xn xp xnc c r ti np nq nd (nI 1) (by first | assumption | omega)) (cwV 1 hC.1.2.2.2.2 gX5_about_X3_qualitiesThatAre rfl rfl rfl dV_X3_qualitiesThatAre ⟨Nat.le_of_ble_eq_true rfl, Nat.le_of_ble_eq_true rfl⟩) rfl rfl rfl rfl (Nat.le_of_ble_eq_true rfl) dX5_about_122 ⟨Nat.le_of_ble_eq_true rfl, Nat.le_of_ble_eq_true rfl⟩ [1, 2, 3] rfl rfl ?_
    subst hQ
    refine g_iret (v := nI (thatAre nq c (nI 1))) hC () hr ?_ rfl dX5_about_125
    rfl
  by_cases k1_7 : a = nI 7
  · subst k1_7
    refine g_tableIn (off := 125) hC 126 dX5_about_1 (by decide +kernel) (by decide +kernel) (by decide +kernel) (by decide) ?_
    refine g_aload_n hC 0 dX5_about_126 rfl rfl ?_
    refine g_get (C := RX5) (T := TX5) (N := 10) (ci := 5) (v := .ref xn) hC hcw5 0 rfl rfl 3 (by decide) w2 (fun _ h => h) rfl dX5_about_127 ?_
    refine g_iconst (v := nI 2) hC dX5_about_130 rfl ?_
    refine g_callVip (As := [.int (nI 2)]) (rest := []) hC (nI (thatAre nq c (nI 2))) (c_X3_qualitiesThatAre l D cI cZ xn xp xnc c r ti np nq nd (nI 2) (by first | assumption | omega)) (cwV 1 hC.1.2.2.2.2 gX5_about_X3_qualitiesThatAre rfl rfl rfl dV_X3_qualitiesThatAre ⟨Nat.le_of_ble_eq_true rfl, Nat.le_of_ble_eq_true rfl⟩) rfl rfl rfl rfl (Nat.le_of_ble_eq_true rfl) dX5_about_131 ⟨Nat.le_of_ble_eq_true rfl, Nat.le_of_ble_eq_true rfl⟩ [1, 2, 3] rfl rfl ?_
    subst hQ
    refine g_iret (v := nI (thatAre nq c (nI 2))) hC () hr ?_ rfl dX5_about_134
    rfl
  by_cases k1_8 : a = nI 8
  · subst k1_8
    refine g_tableIn (off := 134) hC 135 dX5_about_1 (by decide +kernel) (by decide +kernel) (by decide +kernel) (by decide) ?_
    refine g_aload_n hC 0 dX5_about_135 rfl rfl ?_
    refine g_get (C := RX5) (T := TX5) (N := 10) (ci := 5) (v := .ref xn) hC hcw5 0 rfl rfl 3 (by decide) w2 (fun _ h => h) rfl dX5_about_136 ?_
    refine g_iconst (v := nI 1) hC dX5_about_139 rfl ?_
    refine g_callVip (As := [.int (nI 1)]) (rest := []) hC (nI (deedsThat nd c (nI 1))) (c_X3_deedsThatAre l D cI cZ xn xp xnc c r ti np nq nd (nI 1) (by first | assumption | omega)) (cwV 1 hC.1.2.2.2.2 gX5_about_X3_deedsThatAre rfl rfl rfl dV_X3_deedsThatAre ⟨Nat.le_of_ble_eq_true rfl, Nat.le_of_ble_eq_true rfl⟩) rfl rfl rfl rfl (Nat.le_of_ble_eq_true rfl) dX5_about_140 ⟨Nat.le_of_ble_eq_true rfl, Nat.le_of_ble_eq_true rfl⟩ [1, 2, 3] rfl rfl ?_
    subst hQ
    refine g_iret (v := nI (deedsThat nd c (nI 1))) hC () hr ?_ rfl dX5_about_143
    rfl
  by_cases k1_9 : a = nI 9
  · subst k1_9
    refine g_tableIn (off := 143) hC 144 dX5_about_1 (by decide +kernel) (by decide +kernel) (by decide +kernel) (by decide) ?_
    refine g_aload_n hC 0 dX5_about_144 rfl rfl ?_
    refine g_get (C := RX5) (T := TX5) (N := 10) (ci := 5) (v := .ref xn) hC hcw5 0 rfl rfl 3 (by decide) w2 (fun _ h => h) rfl dX5_about_145 ?_
    refine g_iconst (v := nI 2) hC dX5_about_148 rfl ?_
    refine g_callVip (As := [.int (nI 2)]) (rest := []) hC (nI (deedsThat nd c (nI 2))) (c_X3_deedsThatAre l D cI cZ xn xp xnc c r ti np nq nd (nI 2) (by first | assumption | omega)) (cwV 1 hC.1.2.2.2.2 gX5_about_X3_deedsThatAre rfl rfl rfl dV_X3_deedsThatAre ⟨Nat.le_of_ble_eq_true rfl, Nat.le_of_ble_eq_true rfl⟩) rfl rfl rfl rfl (Nat.le_of_ble_eq_true rfl) dX5_about_149 ⟨Nat.le_of_ble_eq_true rfl, Nat.le_of_ble_eq_true rfl⟩ [1, 2, 3] rfl rfl ?_
    subst hQ
    refine g_iret (v := nI (deedsThat nd c (nI 2))) hC () hr ?_ rfl dX5_about_152
    rfl
  by_cases k1_10 : a = nI 10
  · subst k1_10
    refine g_tableIn (off := 152) hC 153 dX5_about_1 (by decide +kernel) (by decide +kernel) (by decide +kernel) (by decide) ?_
    refine g_aload_n hC 0 dX5_about_153 rfl rfl ?_
    refine g_get (C := RX5) (T := TX5) (N := 10) (ci := 5) (v := .ref xc) hC hcw5 0 rfl rfl 5 (by decide) w3 (fun _ h => h) rfl dX5_about_154 ?_
    refine g_getN (C := RX0) (T := TX0) (N := 3) (ci := 0) (v := .int (nI cnt)) hC hcw0 4 rfl rfl 2 (by decide) (hC.2.2.1.f 12 rfl) (fun _ h => h) rfl dX5_about_157 ?_
    subst hQ
    refine g_iret (v := nI cnt) hC () hr ?_ rfl dX5_about_160
    rfl
  by_cases k1_11 : a = nI 11
  · subst k1_11
    refine g_tableIn (off := 160) hC 161 dX5_about_1 (by decide +kernel) (by decide +kernel) (by decide +kernel) (by decide) ?_
    refine g_aload_n hC 0 dX5_about_161 rfl rfl ?_
    refine g_get (C := RX5) (T := TX5) (N := 10) (ci := 5) (v := .ref xs) hC hcw5 0 rfl rfl 6 (by decide) w4 (fun _ h => h) rfl dX5_about_162 ?_
    refine g_getN (C := RX1) (T := TX1) (N := 3) (ci := 1) (v := .int (nI na)) hC hcw1 5 rfl rfl 2 (by decide) (hC.2.2.1.f 13 rfl) (fun _ h => h) rfl dX5_about_165 ?_
    subst hQ
    refine g_iret (v := nI na) hC () hr ?_ rfl dX5_about_168
    rfl
  by_cases k1_12 : a = nI 12
  · subst k1_12
    refine g_tableIn (off := 168) hC 169 dX5_about_1 (by decide +kernel) (by decide +kernel) (by decide +kernel) (by decide) ?_
    refine g_aload_n hC 0 dX5_about_169 rfl rfl ?_
    refine g_get (C := RX5) (T := TX5) (N := 10) (ci := 5) (v := .ref xt) hC hcw5 0 rfl rfl 0 (by decide) w5 (fun _ h => h) rfl dX5_about_170 ?_
    refine g_getN (C := RX4) (T := TX4) (N := 3) (ci := 4) (v := .int (nI tl)) hC hcw4 6 rfl rfl 1 (by decide) (hC.2.2.1.f 0 rfl) (fun _ h => h) rfl dX5_about_173 ?_
    subst hQ
    refine g_iret (v := nI tl) hC () hr ?_ rfl dX5_about_176
    rfl
  have z1_0 : a.toInt ≠ 0 := fun q => k1_0 (Int32.toInt_inj.mp (q.trans (by decide +kernel)))
  have z1_1 : a.toInt ≠ 1 := fun q => k1_1 (Int32.toInt_inj.mp (q.trans (by decide +kernel)))
  have z1_2 : a.toInt ≠ 2 := fun q => k1_2 (Int32.toInt_inj.mp (q.trans (by decide +kernel)))
  have z1_3 : a.toInt ≠ 3 := fun q => k1_3 (Int32.toInt_inj.mp (q.trans (by decide +kernel)))
  have z1_4 : a.toInt ≠ 4 := fun q => k1_4 (Int32.toInt_inj.mp (q.trans (by decide +kernel)))
  have z1_5 : a.toInt ≠ 5 := fun q => k1_5 (Int32.toInt_inj.mp (q.trans (by decide +kernel)))
  have z1_6 : a.toInt ≠ 6 := fun q => k1_6 (Int32.toInt_inj.mp (q.trans (by decide +kernel)))
  have z1_7 : a.toInt ≠ 7 := fun q => k1_7 (Int32.toInt_inj.mp (q.trans (by decide +kernel)))
  have z1_8 : a.toInt ≠ 8 := fun q => k1_8 (Int32.toInt_inj.mp (q.trans (by decide +kernel)))
  have z1_9 : a.toInt ≠ 9 := fun q => k1_9 (Int32.toInt_inj.mp (q.trans (by decide +kernel)))
  have z1_10 : a.toInt ≠ 10 := fun q => k1_10 (Int32.toInt_inj.mp (q.trans (by decide +kernel)))
  have z1_11 : a.toInt ≠ 11 := fun q => k1_11 (Int32.toInt_inj.mp (q.trans (by decide +kernel)))
  have z1_12 : a.toInt ≠ 12 := fun q => k1_12 (Int32.toInt_inj.mp (q.trans (by decide +kernel)))
  refine g_tableOut hC 177 dX5_about_1 (by omega) (by decide) ?_
  refine g_bipush (v := (-2)) hC dX5_about_177 (by decide +kernel) ?_
  subst hQ
  refine g_iret (v := -2) hC () hr ?_ rfl dX5_about_179
  rw [aboutR, if_neg k1_0, if_neg k1_1, if_neg k1_2, if_neg k1_3, if_neg k1_4, if_neg k1_5, if_neg k1_6, if_neg k1_7, if_neg k1_8, if_neg k1_9, if_neg k1_10, if_neg k1_11, if_neg k1_12]

abbrev rm_X5_person : Room := { frames := 3, cells := 0, slots := 0, locals := 65 }
set_option maxRecDepth 100000 in
set_option maxHeartbeats 4000000 in
theorem c_X5_person (l : Launch) (D : va_G) (cI cZ : ClassId) (xo : Nat) (xt : Nat) (xp : Nat) (xd : Nat) (xn : Nat) (xa : Nat) (xc : Nat) (xs : Nat) (xk : Nat) (ks : Int32) (ch : Int64) (xnc : Nat) (c : Nat → Int32) (r : Nat → Nat) (ti : Int32) (np : Nat) (nq : Nat) (nd : Nat) (P : Nat → Nat → Nat) (a : Int32) (w : Int32) (hW : WFP np nq nd P) : CtI l yX5_person wsX5_person rm_X5_person D cI cZ [.ref xo, .int a, .int w] [(xo, o5 xt xp xd xn xa xc xs xk ks ch), (xn, .inr (3, [.ref xp, .ref xnc])), (xnc, .inl (cI, 20, .inl c)), (xp, o2 r ti np nq nd), (r 1, .inl (cI, 5, .inl (fun k_ => nI (P 0 k_)))), (r 2, .inl (cI, 5, .inl (fun k_ => nI (P 1 k_)))), (r 3, .inl (cI, 5, .inl (fun k_ => nI (P 2 k_)))), (r 4, .inl (cI, 5, .inl (fun k_ => nI (P 3 k_)))), (r 5, .inl (cI, 5, .inl (fun k_ => nI (P 4 k_)))), (r 6, .inl (cI, 5, .inl (fun k_ => nI (P 5 k_))))] (fun r (_ : Unit) => r = personR np nq nd P c a w) (fun (_ : Unit) => [(xo, o5 xt xp xd xn xa xc xs xk ks ch), (xn, .inr (3, [.ref xp, .ref xnc])), (xnc, .inl (cI, 20, .inl c)), (xp, o2 r ti np nq nd), (r 1, .inl (cI, 5, .inl (fun k_ => nI (P 0 k_)))), (r 2, .inl (cI, 5, .inl (fun k_ => nI (P 1 k_)))), (r 3, .inl (cI, 5, .inl (fun k_ => nI (P 2 k_)))), (r 4, .inl (cI, 5, .inl (fun k_ => nI (P 3 k_)))), (r 5, .inl (cI, 5, .inl (fun k_ => nI (P 4 k_)))), (r 6, .inl (cI, 5, .inl (fun k_ => nI (P 5 k_))))]) 0 0 := by
  refine g_startI (ret := (some .int)) (own := RX5) (lv0 := [(0, .ref xo), (1, .int a), (2, .int w)]) (by decide) rfl rfl (Nat.le_of_ble_eq_true rfl) rfl ?_
  intro p e s m args below meth cd A Q hin hr hQ hC
  have hcw5 : ∀ w ∈ wsX50, w ∈ wsX5_person := fun _ h => List.mem_cons_of_mem _ (List.mem_append_left _ (List.mem_append_left _ (List.mem_append_right _ h)))
  have w1 := hC.1.2.2.2.2 (.fieldLink "PluckBroker" 19 "PluckBroker" "plan" "LPluckBroker$Plan;") (List.mem_of_getElem? (i := 1) rfl)
  have w2 := hC.1.2.2.2.2 (.fieldLink "PluckBroker" 31 "PluckBroker" "now" "LPluckBroker$State;") (List.mem_of_getElem? (i := 2) rfl)
  obtain ⟨⟨hnp, hnq, hnd⟩, hq4, hd5⟩ := id hW
  refine g_aload_n hC 0 dX5_person_0 rfl rfl ?_
  refine g_get (C := RX5) (T := TX5) (N := 10) (ci := 5) (v := .ref xp) hC hcw5 0 rfl rfl 1 (by decide) w1 (fun _ h => h) rfl dX5_person_1 ?_
  refine g_iload_n hC 1 dX5_person_4 rfl rfl ?_
  refine g_callVip (As := [.int a]) (rest := []) hC (bI (inR a np)) (c_X2_hasPerson l D cI cZ xp r ti np nq nd a (by omega)) (cwV 1 hC.1.2.2.2.2 gX5_person_X2_hasPerson rfl rfl rfl dV_X2_hasPerson ⟨Nat.le_of_ble_eq_true rfl, Nat.le_of_ble_eq_true rfl⟩) rfl rfl rfl rfl (Nat.le_of_ble_eq_true rfl) dX5_person_5 ⟨Nat.le_of_ble_eq_true rfl, Nat.le_of_ble_eq_true rfl⟩ [3] rfl rfl ?_
  refine g_if_ne_b hC 13 dX5_person_8 (by decide) (fun h8t => ?_) (fun h8f => ?_)
  · obtain ⟨k, hk, rfl⟩ := inR_n (by omega) h8t
    have hin2 := inR_k (n := np) (by omega) hk
    have hKk : K (nI k) = k := K_n (by omega)
    refine g_iload_n hC 2 dX5_person_13 rfl rfl ?_
    by_cases k14_0 : w = nI 0
    · subst k14_0
      refine g_tableIn (off := 26) hC 40 dX5_person_14 (by decide +kernel) (by decide +kernel) (by decide +kernel) (by decide) ?_
      refine g_aload_n hC 0 dX5_person_40 rfl rfl ?_
      refine g_get (C := RX5) (T := TX5) (N := 10) (ci := 5) (v := .ref xn) hC hcw5 0 rfl rfl 3 (by decide) w2 (fun _ h => h) rfl dX5_person_41 ?_
      refine g_iload_n hC 1 dX5_person_44 rfl rfl ?_
      refine g_callVip (As := [.int (nI k)]) (rest := []) hC (c (2 + k)) (c_X3_purseOf l D cI cZ xn xp xnc c k (by first | assumption | omega)) (cwV 1 hC.1.2.2.2.2 gX5_person_X3_purseOf rfl rfl rfl dV_X3_purseOf ⟨Nat.le_of_ble_eq_true rfl, Nat.le_of_ble_eq_true rfl⟩) rfl rfl rfl rfl (Nat.le_of_ble_eq_true rfl) dX5_person_45 ⟨Nat.le_of_ble_eq_true rfl, Nat.le_of_ble_eq_true rfl⟩ [1, 2] rfl rfl ?_
      subst hQ
      refine g_iret (v := c (2 + k)) hC () hr ?_ rfl dX5_person_48
      rw [personR, if_pos hin2, if_pos rfl, hKk]
    by_cases k14_1 : w = nI 1
    · subst k14_1
      refine g_tableIn (off := 35) hC 49 dX5_person_14 (by decide +kernel) (by decide +kernel) (by decide +kernel) (by decide) ?_
      refine g_aload_n hC 0 dX5_person_49 rfl rfl ?_
      refine g_get (C := RX5) (T := TX5) (N := 10) (ci := 5) (v := .ref xp) hC hcw5 0 rfl rfl 1 (by decide) w1 (fun _ h => h) rfl dX5_person_50 ?_
      refine g_iload_n hC 1 dX5_person_53 rfl rfl ?_
      refine g_callVip (As := [.int (nI k)]) (rest := []) hC (nI (ownB nq P (nI k))) (c_X2_qualitiesOf l D cI cZ xp r ti np nq nd P (nI k) hnq) (cwV 1 hC.1.2.2.2.2 gX5_person_X2_qualitiesOf rfl rfl rfl dV_X2_qualitiesOf ⟨Nat.le_of_ble_eq_true rfl, Nat.le_of_ble_eq_true rfl⟩) rfl rfl rfl rfl (Nat.le_of_ble_eq_true rfl) dX5_person_54 ⟨Nat.le_of_ble_eq_true rfl, Nat.le_of_ble_eq_true rfl⟩ [3, 4] rfl rfl ?_
      subst hQ
      refine g_iret (v := nI (ownB nq P (nI k))) hC () hr ?_ rfl dX5_person_57
      rw [personR, if_pos hin2, if_neg (by decide), if_pos rfl]
    by_cases k14_2 : w = nI 2
    · subst k14_2
      refine g_tableIn (off := 44) hC 58 dX5_person_14 (by decide +kernel) (by decide +kernel) (by decide +kernel) (by decide) ?_
      refine g_aload_n hC 0 dX5_person_58 rfl rfl ?_
      refine g_get (C := RX5) (T := TX5) (N := 10) (ci := 5) (v := .ref xp) hC hcw5 0 rfl rfl 1 (by decide) w1 (fun _ h => h) rfl dX5_person_59 ?_
      refine g_iload_n hC 1 dX5_person_62 rfl rfl ?_
      refine g_callVip (As := [.int (nI k)]) (rest := []) hC (nI (deedsB nd P (nI k))) (c_X2_deedsOf l D cI cZ xp r ti np nq nd P (nI k) (by first | assumption | omega)) (cwV 1 hC.1.2.2.2.2 gX5_person_X2_deedsOf rfl rfl rfl dV_X2_deedsOf ⟨Nat.le_of_ble_eq_true rfl, Nat.le_of_ble_eq_true rfl⟩) rfl rfl rfl rfl (Nat.le_of_ble_eq_true rfl) dX5_person_63 ⟨Nat.le_of_ble_eq_true rfl, Nat.le_of_ble_eq_true rfl⟩ [3, 4, 7] rfl rfl ?_
      subst hQ
      refine g_iret (v := nI (deedsB nd P (nI k))) hC () hr ?_ rfl dX5_person_66
      rw [personR, if_pos hin2, if_neg (by decide), if_neg (by decide), if_pos rfl]
    have z14_0 : w.toInt ≠ 0 := fun q => k14_0 (Int32.toInt_inj.mp (q.trans (by decide +kernel)))
    have z14_1 : w.toInt ≠ 1 := fun q => k14_1 (Int32.toInt_inj.mp (q.trans (by decide +kernel)))
    have z14_2 : w.toInt ≠ 2 := fun q => k14_2 (Int32.toInt_inj.mp (q.trans (by decide +kernel)))
    refine g_tableOut hC 67 dX5_person_14 (by omega) (by decide) ?_
    refine g_bipush (v := (-2)) hC dX5_person_67 (by decide +kernel) ?_
    subst hQ
    refine g_iret (v := -2) hC () hr ?_ rfl dX5_person_69
    rw [personR, if_pos hin2, if_neg k14_0, if_neg k14_1, if_neg k14_2]
  refine g_iconst (v := (-1)) hC dX5_person_11 rfl ?_
  subst hQ
  refine g_iret (v := -1) hC () hr ?_ rfl dX5_person_12
  rw [personR, if_neg h8f]

abbrev rm_X5_quality : Room := { frames := 3, cells := 0, slots := 0, locals := 63 }
set_option maxRecDepth 100000 in
set_option maxHeartbeats 4000000 in
theorem c_X5_quality (l : Launch) (D : va_G) (cI cZ : ClassId) (xo : Nat) (xt : Nat) (xp : Nat) (xd : Nat) (xn : Nat) (xa : Nat) (xc : Nat) (xs : Nat) (xk : Nat) (ks : Int32) (ch : Int64) (xnc : Nat) (c : Nat → Int32) (r : Nat → Nat) (ti : Int32) (np : Nat) (nq : Nat) (nd : Nat) (P : Nat → Nat → Nat) (a : Int32) (w : Int32) (hW : WFP np nq nd P) : CtI l yX5_quality wsX5_quality rm_X5_quality D cI cZ [.ref xo, .int a, .int w] [(xo, o5 xt xp xd xn xa xc xs xk ks ch), (xn, .inr (3, [.ref xp, .ref xnc])), (xnc, .inl (cI, 20, .inl c)), (xp, o2 r ti np nq nd), (r 1, .inl (cI, 5, .inl (fun k_ => nI (P 0 k_)))), (r 2, .inl (cI, 5, .inl (fun k_ => nI (P 1 k_)))), (r 3, .inl (cI, 5, .inl (fun k_ => nI (P 2 k_)))), (r 4, .inl (cI, 5, .inl (fun k_ => nI (P 3 k_)))), (r 5, .inl (cI, 5, .inl (fun k_ => nI (P 4 k_)))), (r 6, .inl (cI, 5, .inl (fun k_ => nI (P 5 k_))))] (fun r (_ : Unit) => r = qualityR nq P c a w) (fun (_ : Unit) => [(xo, o5 xt xp xd xn xa xc xs xk ks ch), (xn, .inr (3, [.ref xp, .ref xnc])), (xnc, .inl (cI, 20, .inl c)), (xp, o2 r ti np nq nd), (r 1, .inl (cI, 5, .inl (fun k_ => nI (P 0 k_)))), (r 2, .inl (cI, 5, .inl (fun k_ => nI (P 1 k_)))), (r 3, .inl (cI, 5, .inl (fun k_ => nI (P 2 k_)))), (r 4, .inl (cI, 5, .inl (fun k_ => nI (P 3 k_)))), (r 5, .inl (cI, 5, .inl (fun k_ => nI (P 4 k_)))), (r 6, .inl (cI, 5, .inl (fun k_ => nI (P 5 k_))))]) 0 0 := by
  refine g_startI (ret := (some .int)) (own := RX5) (lv0 := [(0, .ref xo), (1, .int a), (2, .int w)]) (by decide) rfl rfl (Nat.le_of_ble_eq_true rfl) rfl ?_
  intro p e s m args below meth cd A Q hin hr hQ hC
  have hcw5 : ∀ w ∈ wsX50, w ∈ wsX5_quality := fun _ h => List.mem_cons_of_mem _ (List.mem_append_left _ (List.mem_append_left _ (List.mem_append_right _ h)))
  have w1 := hC.1.2.2.2.2 (.fieldLink "PluckBroker" 19 "PluckBroker" "plan" "LPluckBroker$Plan;") (List.mem_of_getElem? (i := 1) rfl)
  have w2 := hC.1.2.2.2.2 (.fieldLink "PluckBroker" 31 "PluckBroker" "now" "LPluckBroker$State;") (List.mem_of_getElem? (i := 2) rfl)
  obtain ⟨⟨hnp, hnq, hnd⟩, hq4, hd5⟩ := id hW
  refine g_aload_n hC 0 dX5_quality_0 rfl rfl ?_
  refine g_get (C := RX5) (T := TX5) (N := 10) (ci := 5) (v := .ref xp) hC hcw5 0 rfl rfl 1 (by decide) w1 (fun _ h => h) rfl dX5_quality_1 ?_
  refine g_iload_n hC 1 dX5_quality_4 rfl rfl ?_
  refine g_callVip (As := [.int a]) (rest := []) hC (bI (inR a nq)) (c_X2_hasQuality l D cI cZ xp r ti np nq nd a hnq) (cwV 1 hC.1.2.2.2.2 gX5_quality_X2_hasQuality rfl rfl rfl dV_X2_hasQuality ⟨Nat.le_of_ble_eq_true rfl, Nat.le_of_ble_eq_true rfl⟩) rfl rfl rfl rfl (Nat.le_of_ble_eq_true rfl) dX5_quality_5 ⟨Nat.le_of_ble_eq_true rfl, Nat.le_of_ble_eq_true rfl⟩ [3] rfl rfl ?_
  refine g_if_ne_b hC 13 dX5_quality_8 (by decide) (fun h8t => ?_) (fun h8f => ?_)
  · obtain ⟨k, hk, rfl⟩ := inR_n (by omega) h8t
    have hin2 := inR_k (n := nq) (by omega) hk
    have hKk : K (nI k) = k := K_n (by omega)
    refine g_iload_n hC 2 dX5_quality_13 rfl rfl ?_
    by_cases k14_0 : w = nI 0
    · subst k14_0
      refine g_tableIn (off := 38) hC 52 dX5_quality_14 (by decide +kernel) (by decide +kernel) (by decide +kernel) (by decide) ?_
      refine g_aload_n hC 0 dX5_quality_52 rfl rfl ?_
      refine g_get (C := RX5) (T := TX5) (N := 10) (ci := 5) (v := .ref xp) hC hcw5 0 rfl rfl 1 (by decide) w1 (fun _ h => h) rfl dX5_quality_53 ?_
      refine g_iload_n hC 1 dX5_quality_56 rfl rfl ?_
      refine g_callVip (As := [.int (nI k)]) (rest := []) hC (nI (P 0 k)) (c_X2_ownerOf l D cI cZ xp r ti np nq nd P k (by first | assumption | omega)) (cwV 1 hC.1.2.2.2.2 gX5_quality_X2_ownerOf rfl rfl rfl dV_X2_ownerOf ⟨Nat.le_of_ble_eq_true rfl, Nat.le_of_ble_eq_true rfl⟩) rfl rfl rfl rfl (Nat.le_of_ble_eq_true rfl) dX5_quality_57 ⟨Nat.le_of_ble_eq_true rfl, Nat.le_of_ble_eq_true rfl⟩ [3, 4] rfl rfl ?_
      subst hQ
      refine g_iret (v := nI (P 0 k)) hC () hr ?_ rfl dX5_quality_60
      rw [qualityR, if_pos hin2, if_pos rfl, hKk]
    by_cases k14_1 : w = nI 1
    · subst k14_1
      refine g_tableIn (off := 47) hC 61 dX5_quality_14 (by decide +kernel) (by decide +kernel) (by decide +kernel) (by decide) ?_
      refine g_aload_n hC 0 dX5_quality_61 rfl rfl ?_
      refine g_get (C := RX5) (T := TX5) (N := 10) (ci := 5) (v := .ref xp) hC hcw5 0 rfl rfl 1 (by decide) w1 (fun _ h => h) rfl dX5_quality_62 ?_
      refine g_iload_n hC 1 dX5_quality_65 rfl rfl ?_
      refine g_callVip (As := [.int (nI k)]) (rest := []) hC (nI (P 1 k)) (c_X2_worthOf l D cI cZ xp r ti np nq nd P k (by first | assumption | omega)) (cwV 1 hC.1.2.2.2.2 gX5_quality_X2_worthOf rfl rfl rfl dV_X2_worthOf ⟨Nat.le_of_ble_eq_true rfl, Nat.le_of_ble_eq_true rfl⟩) rfl rfl rfl rfl (Nat.le_of_ble_eq_true rfl) dX5_quality_66 ⟨Nat.le_of_ble_eq_true rfl, Nat.le_of_ble_eq_true rfl⟩ [3, 5] rfl rfl ?_
      subst hQ
      refine g_iret (v := nI (P 1 k)) hC () hr ?_ rfl dX5_quality_69
      rw [qualityR, if_pos hin2, if_neg (by decide), if_pos rfl, hKk]
    by_cases k14_2 : w = nI 2
    · subst k14_2
      refine g_tableIn (off := 56) hC 70 dX5_quality_14 (by decide +kernel) (by decide +kernel) (by decide +kernel) (by decide) ?_
      refine g_aload_n hC 0 dX5_quality_70 rfl rfl ?_
      refine g_get (C := RX5) (T := TX5) (N := 10) (ci := 5) (v := .ref xp) hC hcw5 0 rfl rfl 1 (by decide) w1 (fun _ h => h) rfl dX5_quality_71 ?_
      refine g_iload_n hC 1 dX5_quality_74 rfl rfl ?_
      refine g_callVip (As := [.int (nI k)]) (rest := []) hC (nI (P 2 k)) (c_X2_kindOf l D cI cZ xp r ti np nq nd P k (by first | assumption | omega)) (cwV 1 hC.1.2.2.2.2 gX5_quality_X2_kindOf rfl rfl rfl dV_X2_kindOf ⟨Nat.le_of_ble_eq_true rfl, Nat.le_of_ble_eq_true rfl⟩) rfl rfl rfl rfl (Nat.le_of_ble_eq_true rfl) dX5_quality_75 ⟨Nat.le_of_ble_eq_true rfl, Nat.le_of_ble_eq_true rfl⟩ [3, 6] rfl rfl ?_
      subst hQ
      refine g_iret (v := nI (P 2 k)) hC () hr ?_ rfl dX5_quality_78
      rw [qualityR, if_pos hin2, if_neg (by decide), if_neg (by decide), if_pos rfl, hKk]
    by_cases k14_3 : w = nI 3
    · subst k14_3
      refine g_tableIn (off := 65) hC 79 dX5_quality_14 (by decide +kernel) (by decide +kernel) (by decide +kernel) (by decide) ?_
      refine g_aload_n hC 0 dX5_quality_79 rfl rfl ?_
      refine g_get (C := RX5) (T := TX5) (N := 10) (ci := 5) (v := .ref xn) hC hcw5 0 rfl rfl 3 (by decide) w2 (fun _ h => h) rfl dX5_quality_80 ?_
      refine g_iload_n hC 1 dX5_quality_83 rfl rfl ?_
      refine g_callVip (As := [.int (nI k)]) (rest := []) hC (c (5 + k)) (c_X3_standingOf l D cI cZ xn xp xnc c k (by first | assumption | omega)) (cwV 1 hC.1.2.2.2.2 gX5_quality_X3_standingOf rfl rfl rfl dV_X3_standingOf ⟨Nat.le_of_ble_eq_true rfl, Nat.le_of_ble_eq_true rfl⟩) rfl rfl rfl rfl (Nat.le_of_ble_eq_true rfl) dX5_quality_84 ⟨Nat.le_of_ble_eq_true rfl, Nat.le_of_ble_eq_true rfl⟩ [1, 2] rfl rfl ?_
      subst hQ
      refine g_iret (v := c (5 + k)) hC () hr ?_ rfl dX5_quality_87
      rw [qualityR, if_pos hin2, if_neg (by decide), if_neg (by decide), if_neg (by decide), if_pos rfl, hKk]
    by_cases k14_4 : w = nI 4
    · subst k14_4
      refine g_tableIn (off := 74) hC 88 dX5_quality_14 (by decide +kernel) (by decide +kernel) (by decide +kernel) (by decide) ?_
      refine g_aload_n hC 0 dX5_quality_88 rfl rfl ?_
      refine g_get (C := RX5) (T := TX5) (N := 10) (ci := 5) (v := .ref xn) hC hcw5 0 rfl rfl 3 (by decide) w2 (fun _ h => h) rfl dX5_quality_89 ?_
      refine g_iload_n hC 1 dX5_quality_92 rfl rfl ?_
      refine g_callVip (As := [.int (nI k)]) (rest := []) hC (c (5 + k)) (c_X3_standingOf l D cI cZ xn xp xnc c k (by first | assumption | omega)) (cwV 1 hC.1.2.2.2.2 gX5_quality_X3_standingOf rfl rfl rfl dV_X3_standingOf ⟨Nat.le_of_ble_eq_true rfl, Nat.le_of_ble_eq_true rfl⟩) rfl rfl rfl rfl (Nat.le_of_ble_eq_true rfl) dX5_quality_93 ⟨Nat.le_of_ble_eq_true rfl, Nat.le_of_ble_eq_true rfl⟩ [1, 2] rfl rfl ?_
      refine g_iconst (v := nI 1) hC dX5_quality_96 rfl ?_
      refine g_icmp_ne hC 111 dX5_quality_97 (by decide) (fun h97t => ?_) (fun h97f => ?_)
      · refine g_bipush (v := (-9)) hC dX5_quality_111 (by decide +kernel) ?_
        subst hQ
        refine g_iret (v := -9) hC () hr ?_ rfl dX5_quality_113
        rw [qualityR, if_pos hin2, if_neg (by decide), if_neg (by decide), if_neg (by decide), if_neg (by decide), if_pos rfl, hKk, if_neg h97t]
      refine g_aload_n hC 0 dX5_quality_100 rfl rfl ?_
      refine g_get (C := RX5) (T := TX5) (N := 10) (ci := 5) (v := .ref xn) hC hcw5 0 rfl rfl 3 (by decide) w2 (fun _ h => h) rfl dX5_quality_101 ?_
      refine g_iload_n hC 1 dX5_quality_104 rfl rfl ?_
      refine g_callVip (As := [.int (nI k)]) (rest := []) hC (c (10 + k)) (c_X3_pledgedOn l D cI cZ xn xp xnc c k (by first | assumption | omega)) (cwV 1 hC.1.2.2.2.2 gX5_quality_X3_pledgedOn rfl rfl rfl dV_X3_pledgedOn ⟨Nat.le_of_ble_eq_true rfl, Nat.le_of_ble_eq_true rfl⟩) rfl rfl rfl rfl (Nat.le_of_ble_eq_true rfl) dX5_quality_105 ⟨Nat.le_of_ble_eq_true rfl, Nat.le_of_ble_eq_true rfl⟩ [1, 2] rfl rfl ?_
      refine g_goto hC 113 dX5_quality_108 (by decide) ?_
      subst hQ
      refine g_iret (v := c (10 + k)) hC () hr ?_ rfl dX5_quality_113
      rw [qualityR, if_pos hin2, if_neg (by decide), if_neg (by decide), if_neg (by decide), if_neg (by decide), if_pos rfl, hKk, if_pos h97f]
    by_cases k14_5 : w = nI 5
    · subst k14_5
      refine g_tableIn (off := 100) hC 114 dX5_quality_14 (by decide +kernel) (by decide +kernel) (by decide +kernel) (by decide) ?_
      refine g_aload_n hC 0 dX5_quality_114 rfl rfl ?_
      refine g_get (C := RX5) (T := TX5) (N := 10) (ci := 5) (v := .ref xn) hC hcw5 0 rfl rfl 3 (by decide) w2 (fun _ h => h) rfl dX5_quality_115 ?_
      refine g_iload_n hC 1 dX5_quality_118 rfl rfl ?_
      refine g_callVip (As := [.int (nI k)]) (rest := []) hC (owed P c k) (c_X3_owedFor l D cI cZ xn xp xnc c r ti np nq nd P k (by first | assumption | omega)) (cwV 1 hC.1.2.2.2.2 gX5_quality_X3_owedFor rfl rfl rfl dV_X3_owedFor ⟨Nat.le_of_ble_eq_true rfl, Nat.le_of_ble_eq_true rfl⟩) rfl rfl rfl rfl (Nat.le_of_ble_eq_true rfl) dX5_quality_119 ⟨Nat.le_of_ble_eq_true rfl, Nat.le_of_ble_eq_true rfl⟩ [1, 2, 3, 4, 5, 6, 7, 8, 9] rfl rfl ?_
      subst hQ
      refine g_iret (v := owed P c k) hC () hr ?_ rfl dX5_quality_122
      rw [qualityR, if_pos hin2, if_neg (by decide), if_neg (by decide), if_neg (by decide), if_neg (by decide), if_neg (by decide), if_pos rfl, hKk]
    have z14_0 : w.toInt ≠ 0 := fun q => k14_0 (Int32.toInt_inj.mp (q.trans (by decide +kernel)))
    have z14_1 : w.toInt ≠ 1 := fun q => k14_1 (Int32.toInt_inj.mp (q.trans (by decide +kernel)))
    have z14_2 : w.toInt ≠ 2 := fun q => k14_2 (Int32.toInt_inj.mp (q.trans (by decide +kernel)))
    have z14_3 : w.toInt ≠ 3 := fun q => k14_3 (Int32.toInt_inj.mp (q.trans (by decide +kernel)))
    have z14_4 : w.toInt ≠ 4 := fun q => k14_4 (Int32.toInt_inj.mp (q.trans (by decide +kernel)))
    have z14_5 : w.toInt ≠ 5 := fun q => k14_5 (Int32.toInt_inj.mp (q.trans (by decide +kernel)))
    refine g_tableOut hC 123 dX5_quality_14 (by omega) (by decide) ?_
    refine g_bipush (v := (-2)) hC dX5_quality_123 (by decide +kernel) ?_
    subst hQ
    refine g_iret (v := -2) hC () hr ?_ rfl dX5_quality_125
    rw [qualityR, if_pos hin2, if_neg k14_0, if_neg k14_1, if_neg k14_2, if_neg k14_3, if_neg k14_4, if_neg k14_5]
  refine g_iconst (v := (-1)) hC dX5_quality_11 rfl ?_
  subst hQ
  refine g_iret (v := -1) hC () hr ?_ rfl dX5_quality_12
  rw [qualityR, if_neg h8f]

abbrev rm_X5_deed : Room := { frames := 2, cells := 0, slots := 0, locals := 42 }
set_option maxRecDepth 100000 in
set_option maxHeartbeats 4000000 in
theorem c_X5_deed (l : Launch) (D : va_G) (cI cZ : ClassId) (xo : Nat) (xt : Nat) (xp : Nat) (xd : Nat) (xn : Nat) (xa : Nat) (xc : Nat) (xs : Nat) (xk : Nat) (ks : Int32) (ch : Int64) (xnc : Nat) (c : Nat → Int32) (r : Nat → Nat) (ti : Int32) (np : Nat) (nq : Nat) (nd : Nat) (P : Nat → Nat → Nat) (a : Int32) (w : Int32) (hW : WFP np nq nd P) : CtI l yX5_deed wsX5_deed rm_X5_deed D cI cZ [.ref xo, .int a, .int w] [(xo, o5 xt xp xd xn xa xc xs xk ks ch), (xn, .inr (3, [.ref xp, .ref xnc])), (xnc, .inl (cI, 20, .inl c)), (xp, o2 r ti np nq nd), (r 1, .inl (cI, 5, .inl (fun k_ => nI (P 0 k_)))), (r 2, .inl (cI, 5, .inl (fun k_ => nI (P 1 k_)))), (r 3, .inl (cI, 5, .inl (fun k_ => nI (P 2 k_)))), (r 4, .inl (cI, 5, .inl (fun k_ => nI (P 3 k_)))), (r 5, .inl (cI, 5, .inl (fun k_ => nI (P 4 k_)))), (r 6, .inl (cI, 5, .inl (fun k_ => nI (P 5 k_))))] (fun r (_ : Unit) => r = deedR nd P c a w) (fun (_ : Unit) => [(xo, o5 xt xp xd xn xa xc xs xk ks ch), (xn, .inr (3, [.ref xp, .ref xnc])), (xnc, .inl (cI, 20, .inl c)), (xp, o2 r ti np nq nd), (r 1, .inl (cI, 5, .inl (fun k_ => nI (P 0 k_)))), (r 2, .inl (cI, 5, .inl (fun k_ => nI (P 1 k_)))), (r 3, .inl (cI, 5, .inl (fun k_ => nI (P 2 k_)))), (r 4, .inl (cI, 5, .inl (fun k_ => nI (P 3 k_)))), (r 5, .inl (cI, 5, .inl (fun k_ => nI (P 4 k_)))), (r 6, .inl (cI, 5, .inl (fun k_ => nI (P 5 k_))))]) 0 0 := by
  refine g_startI (ret := (some .int)) (own := RX5) (lv0 := [(0, .ref xo), (1, .int a), (2, .int w)]) (by decide) rfl rfl (Nat.le_of_ble_eq_true rfl) rfl ?_
  intro p e s m args below meth cd A Q hin hr hQ hC
  have hcw5 : ∀ w ∈ wsX50, w ∈ wsX5_deed := fun _ h => List.mem_cons_of_mem _ (List.mem_append_left _ (List.mem_append_left _ (List.mem_append_right _ h)))
  have w1 := hC.1.2.2.2.2 (.fieldLink "PluckBroker" 19 "PluckBroker" "plan" "LPluckBroker$Plan;") (List.mem_of_getElem? (i := 1) rfl)
  have w2 := hC.1.2.2.2.2 (.fieldLink "PluckBroker" 31 "PluckBroker" "now" "LPluckBroker$State;") (List.mem_of_getElem? (i := 2) rfl)
  obtain ⟨⟨hnp, hnq, hnd⟩, hq4, hd5⟩ := id hW
  refine g_aload_n hC 0 dX5_deed_0 rfl rfl ?_
  refine g_get (C := RX5) (T := TX5) (N := 10) (ci := 5) (v := .ref xp) hC hcw5 0 rfl rfl 1 (by decide) w1 (fun _ h => h) rfl dX5_deed_1 ?_
  refine g_iload_n hC 1 dX5_deed_4 rfl rfl ?_
  refine g_callVip (As := [.int a]) (rest := []) hC (bI (inR a nd)) (c_X2_hasDeed l D cI cZ xp r ti np nq nd a hnd) (cwV 1 hC.1.2.2.2.2 gX5_deed_X2_hasDeed rfl rfl rfl dV_X2_hasDeed ⟨Nat.le_of_ble_eq_true rfl, Nat.le_of_ble_eq_true rfl⟩) rfl rfl rfl rfl (Nat.le_of_ble_eq_true rfl) dX5_deed_5 ⟨Nat.le_of_ble_eq_true rfl, Nat.le_of_ble_eq_true rfl⟩ [3] rfl rfl ?_
  refine g_if_ne_b hC 13 dX5_deed_8 (by decide) (fun h8t => ?_) (fun h8f => ?_)
  · obtain ⟨k, hk, rfl⟩ := inR_n (by omega) h8t
    have hin2 := inR_k (n := nd) (by omega) hk
    have hKk : K (nI k) = k := K_n (by omega)
    refine g_iload_n hC 2 dX5_deed_13 rfl rfl ?_
    by_cases k14_0 : w = nI 0
    · subst k14_0
      refine g_tableIn (off := 30) hC 44 dX5_deed_14 (by decide +kernel) (by decide +kernel) (by decide +kernel) (by decide) ?_
      refine g_aload_n hC 0 dX5_deed_44 rfl rfl ?_
      refine g_get (C := RX5) (T := TX5) (N := 10) (ci := 5) (v := .ref xp) hC hcw5 0 rfl rfl 1 (by decide) w1 (fun _ h => h) rfl dX5_deed_45 ?_
      refine g_iload_n hC 1 dX5_deed_48 rfl rfl ?_
      refine g_callVip (As := [.int (nI k)]) (rest := []) hC (nI (P 3 k)) (c_X2_wantedBy l D cI cZ xp r ti np nq nd P k (by first | assumption | omega)) (cwV 1 hC.1.2.2.2.2 gX5_deed_X2_wantedBy rfl rfl rfl dV_X2_wantedBy ⟨Nat.le_of_ble_eq_true rfl, Nat.le_of_ble_eq_true rfl⟩) rfl rfl rfl rfl (Nat.le_of_ble_eq_true rfl) dX5_deed_49 ⟨Nat.le_of_ble_eq_true rfl, Nat.le_of_ble_eq_true rfl⟩ [3, 7] rfl rfl ?_
      subst hQ
      refine g_iret (v := nI (P 3 k)) hC () hr ?_ rfl dX5_deed_52
      rw [deedR, if_pos hin2, if_pos rfl, hKk]
    by_cases k14_1 : w = nI 1
    · subst k14_1
      refine g_tableIn (off := 39) hC 53 dX5_deed_14 (by decide +kernel) (by decide +kernel) (by decide +kernel) (by decide) ?_
      refine g_aload_n hC 0 dX5_deed_53 rfl rfl ?_
      refine g_get (C := RX5) (T := TX5) (N := 10) (ci := 5) (v := .ref xp) hC hcw5 0 rfl rfl 1 (by decide) w1 (fun _ h => h) rfl dX5_deed_54 ?_
      refine g_iload_n hC 1 dX5_deed_57 rfl rfl ?_
      refine g_callVip (As := [.int (nI k)]) (rest := []) hC (nI (P 4 k)) (c_X2_dayOf l D cI cZ xp r ti np nq nd P k (by first | assumption | omega)) (cwV 1 hC.1.2.2.2.2 gX5_deed_X2_dayOf rfl rfl rfl dV_X2_dayOf ⟨Nat.le_of_ble_eq_true rfl, Nat.le_of_ble_eq_true rfl⟩) rfl rfl rfl rfl (Nat.le_of_ble_eq_true rfl) dX5_deed_58 ⟨Nat.le_of_ble_eq_true rfl, Nat.le_of_ble_eq_true rfl⟩ [3, 8] rfl rfl ?_
      subst hQ
      refine g_iret (v := nI (P 4 k)) hC () hr ?_ rfl dX5_deed_61
      rw [deedR, if_pos hin2, if_neg (by decide), if_pos rfl, hKk]
    by_cases k14_2 : w = nI 2
    · subst k14_2
      refine g_tableIn (off := 48) hC 62 dX5_deed_14 (by decide +kernel) (by decide +kernel) (by decide +kernel) (by decide) ?_
      refine g_aload_n hC 0 dX5_deed_62 rfl rfl ?_
      refine g_get (C := RX5) (T := TX5) (N := 10) (ci := 5) (v := .ref xp) hC hcw5 0 rfl rfl 1 (by decide) w1 (fun _ h => h) rfl dX5_deed_63 ?_
      refine g_iload_n hC 1 dX5_deed_66 rfl rfl ?_
      refine g_callVip (As := [.int (nI k)]) (rest := []) hC (nI (P 5 k)) (c_X2_rewardOf l D cI cZ xp r ti np nq nd P k (by first | assumption | omega)) (cwV 1 hC.1.2.2.2.2 gX5_deed_X2_rewardOf rfl rfl rfl dV_X2_rewardOf ⟨Nat.le_of_ble_eq_true rfl, Nat.le_of_ble_eq_true rfl⟩) rfl rfl rfl rfl (Nat.le_of_ble_eq_true rfl) dX5_deed_67 ⟨Nat.le_of_ble_eq_true rfl, Nat.le_of_ble_eq_true rfl⟩ [3, 9] rfl rfl ?_
      subst hQ
      refine g_iret (v := nI (P 5 k)) hC () hr ?_ rfl dX5_deed_70
      rw [deedR, if_pos hin2, if_neg (by decide), if_neg (by decide), if_pos rfl, hKk]
    by_cases k14_3 : w = nI 3
    · subst k14_3
      refine g_tableIn (off := 57) hC 71 dX5_deed_14 (by decide +kernel) (by decide +kernel) (by decide +kernel) (by decide) ?_
      refine g_aload_n hC 0 dX5_deed_71 rfl rfl ?_
      refine g_get (C := RX5) (T := TX5) (N := 10) (ci := 5) (v := .ref xn) hC hcw5 0 rfl rfl 3 (by decide) w2 (fun _ h => h) rfl dX5_deed_72 ?_
      refine g_iload_n hC 1 dX5_deed_75 rfl rfl ?_
      refine g_callVip (As := [.int (nI k)]) (rest := []) hC (c (15 + k)) (c_X3_outcomeOf l D cI cZ xn xp xnc c k (by first | assumption | omega)) (cwV 1 hC.1.2.2.2.2 gX5_deed_X3_outcomeOf rfl rfl rfl dV_X3_outcomeOf ⟨Nat.le_of_ble_eq_true rfl, Nat.le_of_ble_eq_true rfl⟩) rfl rfl rfl rfl (Nat.le_of_ble_eq_true rfl) dX5_deed_76 ⟨Nat.le_of_ble_eq_true rfl, Nat.le_of_ble_eq_true rfl⟩ [1, 2] rfl rfl ?_
      subst hQ
      refine g_iret (v := c (15 + k)) hC () hr ?_ rfl dX5_deed_79
      rw [deedR, if_pos hin2, if_neg (by decide), if_neg (by decide), if_neg (by decide), if_pos rfl, hKk]
    have z14_0 : w.toInt ≠ 0 := fun q => k14_0 (Int32.toInt_inj.mp (q.trans (by decide +kernel)))
    have z14_1 : w.toInt ≠ 1 := fun q => k14_1 (Int32.toInt_inj.mp (q.trans (by decide +kernel)))
    have z14_2 : w.toInt ≠ 2 := fun q => k14_2 (Int32.toInt_inj.mp (q.trans (by decide +kernel)))
    have z14_3 : w.toInt ≠ 3 := fun q => k14_3 (Int32.toInt_inj.mp (q.trans (by decide +kernel)))
    refine g_tableOut hC 80 dX5_deed_14 (by omega) (by decide) ?_
    refine g_bipush (v := (-2)) hC dX5_deed_80 (by decide +kernel) ?_
    subst hQ
    refine g_iret (v := -2) hC () hr ?_ rfl dX5_deed_82
    rw [deedR, if_pos hin2, if_neg k14_0, if_neg k14_1, if_neg k14_2, if_neg k14_3]
  refine g_iconst (v := (-1)) hC dX5_deed_11 rfl ?_
  subst hQ
  refine g_iret (v := -1) hC () hr ?_ rfl dX5_deed_12
  rw [deedR, if_neg h8f]

abbrev rm_X5_day : Room := { frames := 4, cells := 0, slots := 0, locals := 88 }
set_option maxRecDepth 100000 in
set_option maxHeartbeats 4000000 in
theorem c_X5_day (l : Launch) (D : va_G) (cI cZ : ClassId) (xo : Nat) (xt : Nat) (xp : Nat) (xd : Nat) (xn : Nat) (xa : Nat) (xc : Nat) (xs : Nat) (xk : Nat) (ks : Int32) (ch : Int64) (xnc : Nat) (c : Nat → Int32) (r : Nat → Nat) (ti : Int32) (np : Nat) (nq : Nat) (nd : Nat) (P : Nat → Nat → Nat) (xcb : Nat) (f : Nat → Int32) (u : Nat) (cnt : Nat) (hW : WFP np nq nd P) (hu : u < 14) (hcnt : cnt ≤ 14) : CtI l yX5_day wsX5_day rm_X5_day D cI cZ [.ref xo] [(xo, o5 xt xp xd xn xa xc xs xk ks ch), (xn, .inr (3, [.ref xp, .ref xnc])), (xnc, .inl (cI, 20, .inl c)), (xp, o2 r ti np nq nd), (r 1, .inl (cI, 5, .inl (fun k_ => nI (P 0 k_)))), (r 2, .inl (cI, 5, .inl (fun k_ => nI (P 1 k_)))), (r 3, .inl (cI, 5, .inl (fun k_ => nI (P 2 k_)))), (r 4, .inl (cI, 5, .inl (fun k_ => nI (P 3 k_)))), (r 5, .inl (cI, 5, .inl (fun k_ => nI (P 4 k_)))), (r 6, .inl (cI, 5, .inl (fun k_ => nI (P 5 k_)))), (xc, .inr (0, [.ref xcb, .int (nI u), .int (nI cnt)])), (xcb, .inl (cI, 280, .inl f))] (fun r (_ : Unit) => r = nI (cntD P c nd)) (fun (_ : Unit) => [(xo, o5 xt xp xd xn xa xc xs xk ks ch), (xn, .inr (3, [.ref xp, .ref xnc])), (xnc, .inl (cI, 20, .inl (passF P nq nd c))), (xp, o2 r ti np nq nd), (r 1, .inl (cI, 5, .inl (fun k_ => nI (P 0 k_)))), (r 2, .inl (cI, 5, .inl (fun k_ => nI (P 1 k_)))), (r 3, .inl (cI, 5, .inl (fun k_ => nI (P 2 k_)))), (r 4, .inl (cI, 5, .inl (fun k_ => nI (P 3 k_)))), (r 5, .inl (cI, 5, .inl (fun k_ => nI (P 4 k_)))), (r 6, .inl (cI, 5, .inl (fun k_ => nI (P 5 k_)))), (xc, .inr (0, [.ref xcb, .int (nI (ringU u)), .int (nI (ringN cnt))])), (xcb, .inl (cI, 280, .inl (saveF f c u)))]) 0 0 := by
  refine g_startI (ret := (some .int)) (own := RX5) (lv0 := [(0, .ref xo)]) (by decide) rfl rfl (Nat.le_of_ble_eq_true rfl) rfl ?_
  intro p e s m args below meth cd A Q hin hr hQ hC
  have hcw5 : ∀ w ∈ wsX50, w ∈ wsX5_day := fun _ h => List.mem_cons_of_mem _ (List.mem_append_left _ (List.mem_append_left _ (List.mem_append_left _ (List.mem_append_right _ h))))
  have w1 := hC.1.2.2.2.2 (.fieldLink "PluckBroker" 41 "PluckBroker" "acts" "LPluckBroker$Acts;") (List.mem_of_getElem? (i := 1) rfl)
  have w2 := hC.1.2.2.2.2 (.fieldLink "PluckBroker" 31 "PluckBroker" "now" "LPluckBroker$State;") (List.mem_of_getElem? (i := 2) rfl)
  obtain ⟨⟨hnp, hnq, hnd⟩, hq4, hd5⟩ := id hW
  refine g_aload_n hC 0 dX5_day_0 rfl rfl ?_
  refine g_get (C := RX5) (T := TX5) (N := 10) (ci := 5) (v := .ref xc) hC hcw5 0 rfl rfl 5 (by decide) w1 (fun _ h => h) rfl dX5_day_1 ?_
  refine g_aload_n hC 0 dX5_day_4 rfl rfl ?_
  refine g_get (C := RX5) (T := TX5) (N := 10) (ci := 5) (v := .ref xn) hC hcw5 0 rfl rfl 3 (by decide) w2 (fun _ h => h) rfl dX5_day_5 ?_
  refine g_callVv (As := [.ref xn]) (rest := []) hC (c_X0_remember l D cI cZ xc xcb f u cnt xn xp xnc c (by first | assumption | omega) (by first | assumption | omega)) (cwV 1 hC.1.2.2.2.2 gX5_day_X0_remember rfl rfl rfl dV_X0_remember ⟨Nat.le_of_ble_eq_true rfl, Nat.le_of_ble_eq_true rfl⟩) rfl rfl rfl rfl (Nat.le_of_ble_eq_true rfl) dX5_day_8 ⟨Nat.le_of_ble_eq_true rfl, Nat.le_of_ble_eq_true rfl⟩ [10, 11, 1, 2] [0, 3, 4, 5, 6, 7, 8, 9] [0, 10, 11, 1, 2, 3, 4, 5, 6, 7, 8, 9] (fun (_ : Unit) => [(xo, o5 xt xp xd xn xa xc xs xk ks ch), (xn, .inr (3, [.ref xp, .ref xnc])), (xnc, .inl (cI, 20, .inl c)), (xp, o2 r ti np nq nd), (r 1, .inl (cI, 5, .inl (fun k_ => nI (P 0 k_)))), (r 2, .inl (cI, 5, .inl (fun k_ => nI (P 1 k_)))), (r 3, .inl (cI, 5, .inl (fun k_ => nI (P 2 k_)))), (r 4, .inl (cI, 5, .inl (fun k_ => nI (P 3 k_)))), (r 5, .inl (cI, 5, .inl (fun k_ => nI (P 4 k_)))), (r 6, .inl (cI, 5, .inl (fun k_ => nI (P 5 k_)))), (xc, .inr (0, [.ref xcb, .int (nI (ringU u)), .int (nI (ringN cnt))])), (xcb, .inl (cI, 280, .inl (saveF f c u)))]) rfl rfl rfl (fun _ => rfl) (fun z8 hp8 => ?_)
  refine g_is (ws2 := [(xo, o5 xt xp xd xn xa xc xs xk ks ch), (xn, .inr (3, [.ref xp, .ref xnc])), (xnc, .inl (cI, 20, .inl c)), (xp, o2 r ti np nq nd), (r 1, .inl (cI, 5, .inl (fun k_ => nI (P 0 k_)))), (r 2, .inl (cI, 5, .inl (fun k_ => nI (P 1 k_)))), (r 3, .inl (cI, 5, .inl (fun k_ => nI (P 2 k_)))), (r 4, .inl (cI, 5, .inl (fun k_ => nI (P 3 k_)))), (r 5, .inl (cI, 5, .inl (fun k_ => nI (P 4 k_)))), (r 6, .inl (cI, 5, .inl (fun k_ => nI (P 5 k_)))), (xc, .inr (0, [.ref xcb, .int (nI (ringU u)), .int (nI (ringN cnt))])), (xcb, .inl (cI, 280, .inl (saveF f c u)))]) (lv2 := [(0, .ref xo)]) (st2 := []) rfl rfl rfl ?_
  refine g_aload_n hC 0 dX5_day_11 rfl rfl ?_
  refine g_get (C := RX5) (T := TX5) (N := 10) (ci := 5) (v := .ref xn) hC hcw5 0 rfl rfl 3 (by decide) w2 (fun _ h => h) rfl dX5_day_12 ?_
  refine g_callVi (As := []) (rest := []) hC (c_X3_passDay l D cI cZ xn xp xnc c r ti np nq nd P (by first | assumption | omega)) (cwV 0 hC.1.2.2.2.2 gX5_day_X3_passDay rfl rfl rfl dV_X3_passDay ⟨Nat.le_of_ble_eq_true rfl, Nat.le_of_ble_eq_true rfl⟩) rfl rfl rfl rfl (Nat.le_of_ble_eq_true rfl) dX5_day_15 ⟨Nat.le_of_ble_eq_true rfl, Nat.le_of_ble_eq_true rfl⟩ [1, 2, 3, 4, 5, 6, 7, 8, 9] [0, 10, 11] [0, 3, 4, 5, 6, 7, 8, 9, 10, 11, 1, 2] (fun (_ : Unit) => [(xo, o5 xt xp xd xn xa xc xs xk ks ch), (xn, .inr (3, [.ref xp, .ref xnc])), (xnc, .inl (cI, 20, .inl (passF P nq nd c))), (xp, o2 r ti np nq nd), (r 1, .inl (cI, 5, .inl (fun k_ => nI (P 0 k_)))), (r 2, .inl (cI, 5, .inl (fun k_ => nI (P 1 k_)))), (r 3, .inl (cI, 5, .inl (fun k_ => nI (P 2 k_)))), (r 4, .inl (cI, 5, .inl (fun k_ => nI (P 3 k_)))), (r 5, .inl (cI, 5, .inl (fun k_ => nI (P 4 k_)))), (r 6, .inl (cI, 5, .inl (fun k_ => nI (P 5 k_)))), (xc, .inr (0, [.ref xcb, .int (nI (ringU u)), .int (nI (ringN cnt))])), (xcb, .inl (cI, 280, .inl (saveF f c u)))]) rfl rfl rfl (fun _ => rfl) (fun r15 z15 hp15 => ?_)
  try dsimp only at hp15
  subst hp15
  refine g_is (ws2 := [(xo, o5 xt xp xd xn xa xc xs xk ks ch), (xn, .inr (3, [.ref xp, .ref xnc])), (xnc, .inl (cI, 20, .inl (passF P nq nd c))), (xp, o2 r ti np nq nd), (r 1, .inl (cI, 5, .inl (fun k_ => nI (P 0 k_)))), (r 2, .inl (cI, 5, .inl (fun k_ => nI (P 1 k_)))), (r 3, .inl (cI, 5, .inl (fun k_ => nI (P 2 k_)))), (r 4, .inl (cI, 5, .inl (fun k_ => nI (P 3 k_)))), (r 5, .inl (cI, 5, .inl (fun k_ => nI (P 4 k_)))), (r 6, .inl (cI, 5, .inl (fun k_ => nI (P 5 k_)))), (xc, .inr (0, [.ref xcb, .int (nI (ringU u)), .int (nI (ringN cnt))])), (xcb, .inl (cI, 280, .inl (saveF f c u)))]) (lv2 := [(0, .ref xo)]) (st2 := [.int (nI (cntD P c nd))]) rfl rfl rfl ?_
  subst hQ
  refine g_iret (v := nI (cntD P c nd)) hC () hr ?_ rfl dX5_day_18
  rfl

abbrev rm_X5_pledge : Room := { frames := 4, cells := 0, slots := 0, locals := 84 }
set_option maxRecDepth 100000 in
set_option maxHeartbeats 4000000 in
theorem c_X5_pledge (l : Launch) (D : va_G) (cI cZ : ClassId) (xo : Nat) (xt : Nat) (xp : Nat) (xd : Nat) (xn : Nat) (xa : Nat) (xc : Nat) (xs : Nat) (xk : Nat) (ks : Int32) (ch : Int64) (xnc : Nat) (c : Nat → Int32) (r : Nat → Nat) (ti : Int32) (np : Nat) (nq : Nat) (nd : Nat) (P : Nat → Nat → Nat) (xcb : Nat) (f : Nat → Int32) (u : Nat) (cnt : Nat) (a : Int32) (hW : WFP np nq nd P) (hu : u < 14) (hcnt : cnt ≤ 14) : CtI l yX5_pledge wsX5_pledge rm_X5_pledge D cI cZ [.ref xo, .int a] [(xo, o5 xt xp xd xn xa xc xs xk ks ch), (xn, .inr (3, [.ref xp, .ref xnc])), (xnc, .inl (cI, 20, .inl c)), (xp, o2 r ti np nq nd), (r 1, .inl (cI, 5, .inl (fun k_ => nI (P 0 k_)))), (r 2, .inl (cI, 5, .inl (fun k_ => nI (P 1 k_)))), (r 3, .inl (cI, 5, .inl (fun k_ => nI (P 2 k_)))), (r 4, .inl (cI, 5, .inl (fun k_ => nI (P 3 k_)))), (r 5, .inl (cI, 5, .inl (fun k_ => nI (P 4 k_)))), (r 6, .inl (cI, 5, .inl (fun k_ => nI (P 5 k_)))), (xc, .inr (0, [.ref xcb, .int (nI u), .int (nI cnt)])), (xcb, .inl (cI, 280, .inl f))] (fun (r : Int32) (z : (Nat → Int32) × (Nat → Int32) × Nat × Nat) => match z with | (c2, f2, u2, cnt2) => (r, c2, f2, u2, cnt2) = if inR a nq then (if canP P c (K a) then (tryP P c (K a) 0, tryP P c (K a), saveF f c u, ringU u, ringN cnt) else ((-3), c, f, u, cnt)) else ((-1), c, f, u, cnt)) (fun (z : (Nat → Int32) × (Nat → Int32) × Nat × Nat) => match z with | (c2, f2, u2, cnt2) => [(xo, o5 xt xp xd xn xa xc xs xk ks ch), (xn, .inr (3, [.ref xp, .ref xnc])), (xnc, .inl (cI, 20, .inl c2)), (xp, o2 r ti np nq nd), (r 1, .inl (cI, 5, .inl (fun k_ => nI (P 0 k_)))), (r 2, .inl (cI, 5, .inl (fun k_ => nI (P 1 k_)))), (r 3, .inl (cI, 5, .inl (fun k_ => nI (P 2 k_)))), (r 4, .inl (cI, 5, .inl (fun k_ => nI (P 3 k_)))), (r 5, .inl (cI, 5, .inl (fun k_ => nI (P 4 k_)))), (r 6, .inl (cI, 5, .inl (fun k_ => nI (P 5 k_)))), (xc, .inr (0, [.ref xcb, .int (nI u2), .int (nI cnt2)])), (xcb, .inl (cI, 280, .inl f2))]) 0 0 := by
  refine g_startI (ret := (some .int)) (own := RX5) (lv0 := [(0, .ref xo), (1, .int a)]) (by decide) rfl rfl (Nat.le_of_ble_eq_true rfl) rfl ?_
  intro p e s m args below meth cd A Q hin hr hQ hC
  have hcw5 : ∀ w ∈ wsX50, w ∈ wsX5_pledge := fun _ h => List.mem_cons_of_mem _ (List.mem_append_left _ (List.mem_append_left _ (List.mem_append_left _ (List.mem_append_right _ h))))
  have w1 := hC.1.2.2.2.2 (.fieldLink "PluckBroker" 19 "PluckBroker" "plan" "LPluckBroker$Plan;") (List.mem_of_getElem? (i := 1) rfl)
  have w2 := hC.1.2.2.2.2 (.fieldLink "PluckBroker" 31 "PluckBroker" "now" "LPluckBroker$State;") (List.mem_of_getElem? (i := 2) rfl)
  have w3 := hC.1.2.2.2.2 (.fieldLink "PluckBroker" 41 "PluckBroker" "acts" "LPluckBroker$Acts;") (List.mem_of_getElem? (i := 3) rfl)
  obtain ⟨⟨hnp, hnq, hnd⟩, hq4, hd5⟩ := id hW
  refine g_aload_n hC 0 dX5_pledge_0 rfl rfl ?_
  refine g_get (C := RX5) (T := TX5) (N := 10) (ci := 5) (v := .ref xp) hC hcw5 0 rfl rfl 1 (by decide) w1 (fun _ h => h) rfl dX5_pledge_1 ?_
  refine g_iload_n hC 1 dX5_pledge_4 rfl rfl ?_
  refine g_callVip (As := [.int a]) (rest := []) hC (bI (inR a nq)) (c_X2_hasQuality l D cI cZ xp r ti np nq nd a hnq) (cwV 1 hC.1.2.2.2.2 gX5_pledge_X2_hasQuality rfl rfl rfl dV_X2_hasQuality ⟨Nat.le_of_ble_eq_true rfl, Nat.le_of_ble_eq_true rfl⟩) rfl rfl rfl rfl (Nat.le_of_ble_eq_true rfl) dX5_pledge_5 ⟨Nat.le_of_ble_eq_true rfl, Nat.le_of_ble_eq_true rfl⟩ [3] rfl rfl ?_
  refine g_if_ne_b hC 13 dX5_pledge_8 (by decide) (fun h8t => ?_) (fun h8f => ?_)
  · obtain ⟨k, hk, rfl⟩ := inR_n (by omega) h8t
    have hin2 := inR_k (n := nq) (by omega) hk
    have hKk : K (nI k) = k := K_n (by omega)
    refine g_aload_n hC 0 dX5_pledge_13 rfl rfl ?_
    refine g_get (C := RX5) (T := TX5) (N := 10) (ci := 5) (v := .ref xn) hC hcw5 0 rfl rfl 3 (by decide) w2 (fun _ h => h) rfl dX5_pledge_14 ?_
    refine g_iload_n hC 1 dX5_pledge_17 rfl rfl ?_
    refine g_callVip (As := [.int (nI k)]) (rest := []) hC (bI (canP P c k)) (c_X3_canPledge l D cI cZ xn xp xnc c r ti np nq nd P k (by first | assumption | omega) (by first | assumption | omega)) (cwV 1 hC.1.2.2.2.2 gX5_pledge_X3_canPledge rfl rfl rfl dV_X3_canPledge ⟨Nat.le_of_ble_eq_true rfl, Nat.le_of_ble_eq_true rfl⟩) rfl rfl rfl rfl (Nat.le_of_ble_eq_true rfl) dX5_pledge_18 ⟨Nat.le_of_ble_eq_true rfl, Nat.le_of_ble_eq_true rfl⟩ [1, 2, 3, 4, 5, 6, 7, 8, 9] rfl rfl ?_
    refine g_if_ne_b hC 27 dX5_pledge_21 (by decide) (fun h21t => ?_) (fun h21f => ?_)
    · refine g_aload_n hC 0 dX5_pledge_27 rfl rfl ?_
      refine g_get (C := RX5) (T := TX5) (N := 10) (ci := 5) (v := .ref xc) hC hcw5 0 rfl rfl 5 (by decide) w3 (fun _ h => h) rfl dX5_pledge_28 ?_
      refine g_aload_n hC 0 dX5_pledge_31 rfl rfl ?_
      refine g_get (C := RX5) (T := TX5) (N := 10) (ci := 5) (v := .ref xn) hC hcw5 0 rfl rfl 3 (by decide) w2 (fun _ h => h) rfl dX5_pledge_32 ?_
      refine g_callVv (As := [.ref xn]) (rest := []) hC (c_X0_remember l D cI cZ xc xcb f u cnt xn xp xnc c (by first | assumption | omega) (by first | assumption | omega)) (cwV 1 hC.1.2.2.2.2 gX5_pledge_X0_remember rfl rfl rfl dV_X0_remember ⟨Nat.le_of_ble_eq_true rfl, Nat.le_of_ble_eq_true rfl⟩) rfl rfl rfl rfl (Nat.le_of_ble_eq_true rfl) dX5_pledge_35 ⟨Nat.le_of_ble_eq_true rfl, Nat.le_of_ble_eq_true rfl⟩ [10, 11, 1, 2] [0, 3, 4, 5, 6, 7, 8, 9] [0, 10, 11, 1, 2, 3, 4, 5, 6, 7, 8, 9] (fun (_ : Unit) => [(xo, o5 xt xp xd xn xa xc xs xk ks ch), (xn, .inr (3, [.ref xp, .ref xnc])), (xnc, .inl (cI, 20, .inl c)), (xp, o2 r ti np nq nd), (r 1, .inl (cI, 5, .inl (fun k_ => nI (P 0 k_)))), (r 2, .inl (cI, 5, .inl (fun k_ => nI (P 1 k_)))), (r 3, .inl (cI, 5, .inl (fun k_ => nI (P 2 k_)))), (r 4, .inl (cI, 5, .inl (fun k_ => nI (P 3 k_)))), (r 5, .inl (cI, 5, .inl (fun k_ => nI (P 4 k_)))), (r 6, .inl (cI, 5, .inl (fun k_ => nI (P 5 k_)))), (xc, .inr (0, [.ref xcb, .int (nI (ringU u)), .int (nI (ringN cnt))])), (xcb, .inl (cI, 280, .inl (saveF f c u)))]) rfl rfl rfl (fun _ => rfl) (fun z35 hp35 => ?_)
      refine g_is (ws2 := [(xo, o5 xt xp xd xn xa xc xs xk ks ch), (xn, .inr (3, [.ref xp, .ref xnc])), (xnc, .inl (cI, 20, .inl c)), (xp, o2 r ti np nq nd), (r 1, .inl (cI, 5, .inl (fun k_ => nI (P 0 k_)))), (r 2, .inl (cI, 5, .inl (fun k_ => nI (P 1 k_)))), (r 3, .inl (cI, 5, .inl (fun k_ => nI (P 2 k_)))), (r 4, .inl (cI, 5, .inl (fun k_ => nI (P 3 k_)))), (r 5, .inl (cI, 5, .inl (fun k_ => nI (P 4 k_)))), (r 6, .inl (cI, 5, .inl (fun k_ => nI (P 5 k_)))), (xc, .inr (0, [.ref xcb, .int (nI (ringU u)), .int (nI (ringN cnt))])), (xcb, .inl (cI, 280, .inl (saveF f c u)))]) (lv2 := [(0, .ref xo), (1, .int (nI k))]) (st2 := []) rfl rfl rfl ?_
      refine g_aload_n hC 0 dX5_pledge_38 rfl rfl ?_
      refine g_get (C := RX5) (T := TX5) (N := 10) (ci := 5) (v := .ref xn) hC hcw5 0 rfl rfl 3 (by decide) w2 (fun _ h => h) rfl dX5_pledge_39 ?_
      refine g_iload_n hC 1 dX5_pledge_42 rfl rfl ?_
      refine g_callVi (As := [.int (nI k)]) (rest := []) hC (c_X3_tryPledge l D cI cZ xn xp xnc c r ti np nq nd P k (by first | assumption | omega) (by first | assumption | omega)) (cwV 1 hC.1.2.2.2.2 gX5_pledge_X3_tryPledge rfl rfl rfl dV_X3_tryPledge ⟨Nat.le_of_ble_eq_true rfl, Nat.le_of_ble_eq_true rfl⟩) rfl rfl rfl rfl (Nat.le_of_ble_eq_true rfl) dX5_pledge_43 ⟨Nat.le_of_ble_eq_true rfl, Nat.le_of_ble_eq_true rfl⟩ [1, 2, 3, 4, 5, 6, 7, 8, 9] [0, 10, 11] [0, 3, 4, 5, 6, 7, 8, 9, 10, 11, 1, 2] (fun (_ : Unit) => [(xo, o5 xt xp xd xn xa xc xs xk ks ch), (xn, .inr (3, [.ref xp, .ref xnc])), (xnc, .inl (cI, 20, .inl (tryP P c k))), (xp, o2 r ti np nq nd), (r 1, .inl (cI, 5, .inl (fun k_ => nI (P 0 k_)))), (r 2, .inl (cI, 5, .inl (fun k_ => nI (P 1 k_)))), (r 3, .inl (cI, 5, .inl (fun k_ => nI (P 2 k_)))), (r 4, .inl (cI, 5, .inl (fun k_ => nI (P 3 k_)))), (r 5, .inl (cI, 5, .inl (fun k_ => nI (P 4 k_)))), (r 6, .inl (cI, 5, .inl (fun k_ => nI (P 5 k_)))), (xc, .inr (0, [.ref xcb, .int (nI (ringU u)), .int (nI (ringN cnt))])), (xcb, .inl (cI, 280, .inl (saveF f c u)))]) rfl rfl rfl (fun _ => rfl) (fun r43 z43 hp43 => ?_)
      try dsimp only at hp43
      subst hp43
      refine g_is (ws2 := [(xo, o5 xt xp xd xn xa xc xs xk ks ch), (xn, .inr (3, [.ref xp, .ref xnc])), (xnc, .inl (cI, 20, .inl (tryP P c k))), (xp, o2 r ti np nq nd), (r 1, .inl (cI, 5, .inl (fun k_ => nI (P 0 k_)))), (r 2, .inl (cI, 5, .inl (fun k_ => nI (P 1 k_)))), (r 3, .inl (cI, 5, .inl (fun k_ => nI (P 2 k_)))), (r 4, .inl (cI, 5, .inl (fun k_ => nI (P 3 k_)))), (r 5, .inl (cI, 5, .inl (fun k_ => nI (P 4 k_)))), (r 6, .inl (cI, 5, .inl (fun k_ => nI (P 5 k_)))), (xc, .inr (0, [.ref xcb, .int (nI (ringU u)), .int (nI (ringN cnt))])), (xcb, .inl (cI, 280, .inl (saveF f c u)))]) (lv2 := [(0, .ref xo), (1, .int (nI k))]) (st2 := [.int (bI (canP P c k))]) rfl rfl rfl ?_
      refine g_pop hC dX5_pledge_46 rfl ?_
      refine g_aload_n hC 0 dX5_pledge_47 rfl rfl ?_
      refine g_get (C := RX5) (T := TX5) (N := 10) (ci := 5) (v := .ref xn) hC hcw5 0 rfl rfl 3 (by decide) w2 (fun _ h => h) rfl dX5_pledge_48 ?_
      refine g_callVip (As := []) (rest := []) hC ((tryP P c k) 0) (c_X3_inTill l D cI cZ xn xp xnc (tryP P c k)) (cwV 0 hC.1.2.2.2.2 gX5_pledge_X3_inTill rfl rfl rfl dV_X3_inTill ⟨Nat.le_of_ble_eq_true rfl, Nat.le_of_ble_eq_true rfl⟩) rfl rfl rfl rfl (Nat.le_of_ble_eq_true rfl) dX5_pledge_51 ⟨Nat.le_of_ble_eq_true rfl, Nat.le_of_ble_eq_true rfl⟩ [1, 2] rfl rfl ?_
      subst hQ
      refine g_iret (v := (tryP P c k) 0) hC (tryP P c k, saveF f c u, ringU u, ringN cnt) hr ?_ rfl dX5_pledge_54
      rw [if_pos hin2, hKk, if_pos h21t]
    refine g_bipush (v := (-3)) hC dX5_pledge_24 (by decide +kernel) ?_
    subst hQ
    refine g_iret (v := -3) hC (c, f, u, cnt) hr ?_ rfl dX5_pledge_26
    rw [if_pos hin2, hKk, if_neg h21f]
  refine g_iconst (v := (-1)) hC dX5_pledge_11 rfl ?_
  subst hQ
  refine g_iret (v := -1) hC (c, f, u, cnt) hr ?_ rfl dX5_pledge_12
  rw [if_neg h8f]

abbrev rm_X5_redeem : Room := { frames := 5, cells := 0, slots := 0, locals := 106 }
set_option maxRecDepth 100000 in
set_option maxHeartbeats 4000000 in
theorem c_X5_redeem (l : Launch) (D : va_G) (cI cZ : ClassId) (xo : Nat) (xt : Nat) (xp : Nat) (xd : Nat) (xn : Nat) (xa : Nat) (xc : Nat) (xs : Nat) (xk : Nat) (ks : Int32) (ch : Int64) (xnc : Nat) (c : Nat → Int32) (r : Nat → Nat) (ti : Int32) (np : Nat) (nq : Nat) (nd : Nat) (P : Nat → Nat → Nat) (xcb : Nat) (f : Nat → Int32) (u : Nat) (cnt : Nat) (a : Int32) (hW : WFP np nq nd P) (hu : u < 14) (hcnt : cnt ≤ 14) : CtI l yX5_redeem wsX5_redeem rm_X5_redeem D cI cZ [.ref xo, .int a] [(xo, o5 xt xp xd xn xa xc xs xk ks ch), (xn, .inr (3, [.ref xp, .ref xnc])), (xnc, .inl (cI, 20, .inl c)), (xp, o2 r ti np nq nd), (r 1, .inl (cI, 5, .inl (fun k_ => nI (P 0 k_)))), (r 2, .inl (cI, 5, .inl (fun k_ => nI (P 1 k_)))), (r 3, .inl (cI, 5, .inl (fun k_ => nI (P 2 k_)))), (r 4, .inl (cI, 5, .inl (fun k_ => nI (P 3 k_)))), (r 5, .inl (cI, 5, .inl (fun k_ => nI (P 4 k_)))), (r 6, .inl (cI, 5, .inl (fun k_ => nI (P 5 k_)))), (xc, .inr (0, [.ref xcb, .int (nI u), .int (nI cnt)])), (xcb, .inl (cI, 280, .inl f))] (fun (r : Int32) (z : (Nat → Int32) × (Nat → Int32) × Nat × Nat) => match z with | (c2, f2, u2, cnt2) => (r, c2, f2, u2, cnt2) = if inR a nq then (if canR P c (K a) then (tryR P c (K a) (2 + P 0 (K a)), tryR P c (K a), saveF f c u, ringU u, ringN cnt) else ((-3), c, f, u, cnt)) else ((-1), c, f, u, cnt)) (fun (z : (Nat → Int32) × (Nat → Int32) × Nat × Nat) => match z with | (c2, f2, u2, cnt2) => [(xo, o5 xt xp xd xn xa xc xs xk ks ch), (xn, .inr (3, [.ref xp, .ref xnc])), (xnc, .inl (cI, 20, .inl c2)), (xp, o2 r ti np nq nd), (r 1, .inl (cI, 5, .inl (fun k_ => nI (P 0 k_)))), (r 2, .inl (cI, 5, .inl (fun k_ => nI (P 1 k_)))), (r 3, .inl (cI, 5, .inl (fun k_ => nI (P 2 k_)))), (r 4, .inl (cI, 5, .inl (fun k_ => nI (P 3 k_)))), (r 5, .inl (cI, 5, .inl (fun k_ => nI (P 4 k_)))), (r 6, .inl (cI, 5, .inl (fun k_ => nI (P 5 k_)))), (xc, .inr (0, [.ref xcb, .int (nI u2), .int (nI cnt2)])), (xcb, .inl (cI, 280, .inl f2))]) 0 0 := by
  refine g_startI (ret := (some .int)) (own := RX5) (lv0 := [(0, .ref xo), (1, .int a)]) (by decide) rfl rfl (Nat.le_of_ble_eq_true rfl) rfl ?_
  intro p e s m args below meth cd A Q hin hr hQ hC
  have hcw5 : ∀ w ∈ wsX50, w ∈ wsX5_redeem := fun _ h => List.mem_cons_of_mem _ (List.mem_append_left _ (List.mem_append_left _ (List.mem_append_left _ (List.mem_append_right _ h))))
  have w1 := hC.1.2.2.2.2 (.fieldLink "PluckBroker" 19 "PluckBroker" "plan" "LPluckBroker$Plan;") (List.mem_of_getElem? (i := 1) rfl)
  have w2 := hC.1.2.2.2.2 (.fieldLink "PluckBroker" 31 "PluckBroker" "now" "LPluckBroker$State;") (List.mem_of_getElem? (i := 2) rfl)
  have w3 := hC.1.2.2.2.2 (.fieldLink "PluckBroker" 41 "PluckBroker" "acts" "LPluckBroker$Acts;") (List.mem_of_getElem? (i := 3) rfl)
  obtain ⟨⟨hnp, hnq, hnd⟩, hq4, hd5⟩ := id hW
  refine g_aload_n hC 0 dX5_redeem_0 rfl rfl ?_
  refine g_get (C := RX5) (T := TX5) (N := 10) (ci := 5) (v := .ref xp) hC hcw5 0 rfl rfl 1 (by decide) w1 (fun _ h => h) rfl dX5_redeem_1 ?_
  refine g_iload_n hC 1 dX5_redeem_4 rfl rfl ?_
  refine g_callVip (As := [.int a]) (rest := []) hC (bI (inR a nq)) (c_X2_hasQuality l D cI cZ xp r ti np nq nd a hnq) (cwV 1 hC.1.2.2.2.2 gX5_redeem_X2_hasQuality rfl rfl rfl dV_X2_hasQuality ⟨Nat.le_of_ble_eq_true rfl, Nat.le_of_ble_eq_true rfl⟩) rfl rfl rfl rfl (Nat.le_of_ble_eq_true rfl) dX5_redeem_5 ⟨Nat.le_of_ble_eq_true rfl, Nat.le_of_ble_eq_true rfl⟩ [3] rfl rfl ?_
  refine g_if_ne_b hC 13 dX5_redeem_8 (by decide) (fun h8t => ?_) (fun h8f => ?_)
  · obtain ⟨k, hk, rfl⟩ := inR_n (by omega) h8t
    have hin2 := inR_k (n := nq) (by omega) hk
    have hKk : K (nI k) = k := K_n (by omega)
    refine g_aload_n hC 0 dX5_redeem_13 rfl rfl ?_
    refine g_get (C := RX5) (T := TX5) (N := 10) (ci := 5) (v := .ref xn) hC hcw5 0 rfl rfl 3 (by decide) w2 (fun _ h => h) rfl dX5_redeem_14 ?_
    refine g_iload_n hC 1 dX5_redeem_17 rfl rfl ?_
    refine g_callVip (As := [.int (nI k)]) (rest := []) hC (bI (canR P c k)) (c_X3_canRedeem l D cI cZ xn xp xnc c r ti np nq nd P k (by first | assumption | omega) (by first | assumption | omega)) (cwV 1 hC.1.2.2.2.2 gX5_redeem_X3_canRedeem rfl rfl rfl dV_X3_canRedeem ⟨Nat.le_of_ble_eq_true rfl, Nat.le_of_ble_eq_true rfl⟩) rfl rfl rfl rfl (Nat.le_of_ble_eq_true rfl) dX5_redeem_18 ⟨Nat.le_of_ble_eq_true rfl, Nat.le_of_ble_eq_true rfl⟩ [1, 2, 3, 4, 5, 6, 7, 8, 9] rfl rfl ?_
    refine g_if_ne_b hC 27 dX5_redeem_21 (by decide) (fun h21t => ?_) (fun h21f => ?_)
    · refine g_aload_n hC 0 dX5_redeem_27 rfl rfl ?_
      refine g_get (C := RX5) (T := TX5) (N := 10) (ci := 5) (v := .ref xc) hC hcw5 0 rfl rfl 5 (by decide) w3 (fun _ h => h) rfl dX5_redeem_28 ?_
      refine g_aload_n hC 0 dX5_redeem_31 rfl rfl ?_
      refine g_get (C := RX5) (T := TX5) (N := 10) (ci := 5) (v := .ref xn) hC hcw5 0 rfl rfl 3 (by decide) w2 (fun _ h => h) rfl dX5_redeem_32 ?_
      refine g_callVv (As := [.ref xn]) (rest := []) hC (c_X0_remember l D cI cZ xc xcb f u cnt xn xp xnc c (by first | assumption | omega) (by first | assumption | omega)) (cwV 1 hC.1.2.2.2.2 gX5_redeem_X0_remember rfl rfl rfl dV_X0_remember ⟨Nat.le_of_ble_eq_true rfl, Nat.le_of_ble_eq_true rfl⟩) rfl rfl rfl rfl (Nat.le_of_ble_eq_true rfl) dX5_redeem_35 ⟨Nat.le_of_ble_eq_true rfl, Nat.le_of_ble_eq_true rfl⟩ [10, 11, 1, 2] [0, 3, 4, 5, 6, 7, 8, 9] [0, 10, 11, 1, 2, 3, 4, 5, 6, 7, 8, 9] (fun (_ : Unit) => [(xo, o5 xt xp xd xn xa xc xs xk ks ch), (xn, .inr (3, [.ref xp, .ref xnc])), (xnc, .inl (cI, 20, .inl c)), (xp, o2 r ti np nq nd), (r 1, .inl (cI, 5, .inl (fun k_ => nI (P 0 k_)))), (r 2, .inl (cI, 5, .inl (fun k_ => nI (P 1 k_)))), (r 3, .inl (cI, 5, .inl (fun k_ => nI (P 2 k_)))), (r 4, .inl (cI, 5, .inl (fun k_ => nI (P 3 k_)))), (r 5, .inl (cI, 5, .inl (fun k_ => nI (P 4 k_)))), (r 6, .inl (cI, 5, .inl (fun k_ => nI (P 5 k_)))), (xc, .inr (0, [.ref xcb, .int (nI (ringU u)), .int (nI (ringN cnt))])), (xcb, .inl (cI, 280, .inl (saveF f c u)))]) rfl rfl rfl (fun _ => rfl) (fun z35 hp35 => ?_)
      refine g_is (ws2 := [(xo, o5 xt xp xd xn xa xc xs xk ks ch), (xn, .inr (3, [.ref xp, .ref xnc])), (xnc, .inl (cI, 20, .inl c)), (xp, o2 r ti np nq nd), (r 1, .inl (cI, 5, .inl (fun k_ => nI (P 0 k_)))), (r 2, .inl (cI, 5, .inl (fun k_ => nI (P 1 k_)))), (r 3, .inl (cI, 5, .inl (fun k_ => nI (P 2 k_)))), (r 4, .inl (cI, 5, .inl (fun k_ => nI (P 3 k_)))), (r 5, .inl (cI, 5, .inl (fun k_ => nI (P 4 k_)))), (r 6, .inl (cI, 5, .inl (fun k_ => nI (P 5 k_)))), (xc, .inr (0, [.ref xcb, .int (nI (ringU u)), .int (nI (ringN cnt))])), (xcb, .inl (cI, 280, .inl (saveF f c u)))]) (lv2 := [(0, .ref xo), (1, .int (nI k))]) (st2 := []) rfl rfl rfl ?_
      refine g_aload_n hC 0 dX5_redeem_38 rfl rfl ?_
      refine g_get (C := RX5) (T := TX5) (N := 10) (ci := 5) (v := .ref xn) hC hcw5 0 rfl rfl 3 (by decide) w2 (fun _ h => h) rfl dX5_redeem_39 ?_
      refine g_iload_n hC 1 dX5_redeem_42 rfl rfl ?_
      refine g_callVi (As := [.int (nI k)]) (rest := []) hC (c_X3_tryRedeem l D cI cZ xn xp xnc c r ti np nq nd P k (by first | assumption | omega) (by first | assumption | omega)) (cwV 1 hC.1.2.2.2.2 gX5_redeem_X3_tryRedeem rfl rfl rfl dV_X3_tryRedeem ⟨Nat.le_of_ble_eq_true rfl, Nat.le_of_ble_eq_true rfl⟩) rfl rfl rfl rfl (Nat.le_of_ble_eq_true rfl) dX5_redeem_43 ⟨Nat.le_of_ble_eq_true rfl, Nat.le_of_ble_eq_true rfl⟩ [1, 2, 3, 4, 5, 6, 7, 8, 9] [0, 10, 11] [0, 3, 4, 5, 6, 7, 8, 9, 10, 11, 1, 2] (fun (_ : Unit) => [(xo, o5 xt xp xd xn xa xc xs xk ks ch), (xn, .inr (3, [.ref xp, .ref xnc])), (xnc, .inl (cI, 20, .inl (tryR P c k))), (xp, o2 r ti np nq nd), (r 1, .inl (cI, 5, .inl (fun k_ => nI (P 0 k_)))), (r 2, .inl (cI, 5, .inl (fun k_ => nI (P 1 k_)))), (r 3, .inl (cI, 5, .inl (fun k_ => nI (P 2 k_)))), (r 4, .inl (cI, 5, .inl (fun k_ => nI (P 3 k_)))), (r 5, .inl (cI, 5, .inl (fun k_ => nI (P 4 k_)))), (r 6, .inl (cI, 5, .inl (fun k_ => nI (P 5 k_)))), (xc, .inr (0, [.ref xcb, .int (nI (ringU u)), .int (nI (ringN cnt))])), (xcb, .inl (cI, 280, .inl (saveF f c u)))]) rfl rfl rfl (fun _ => rfl) (fun r43 z43 hp43 => ?_)
      try dsimp only at hp43
      subst hp43
      refine g_is (ws2 := [(xo, o5 xt xp xd xn xa xc xs xk ks ch), (xn, .inr (3, [.ref xp, .ref xnc])), (xnc, .inl (cI, 20, .inl (tryR P c k))), (xp, o2 r ti np nq nd), (r 1, .inl (cI, 5, .inl (fun k_ => nI (P 0 k_)))), (r 2, .inl (cI, 5, .inl (fun k_ => nI (P 1 k_)))), (r 3, .inl (cI, 5, .inl (fun k_ => nI (P 2 k_)))), (r 4, .inl (cI, 5, .inl (fun k_ => nI (P 3 k_)))), (r 5, .inl (cI, 5, .inl (fun k_ => nI (P 4 k_)))), (r 6, .inl (cI, 5, .inl (fun k_ => nI (P 5 k_)))), (xc, .inr (0, [.ref xcb, .int (nI (ringU u)), .int (nI (ringN cnt))])), (xcb, .inl (cI, 280, .inl (saveF f c u)))]) (lv2 := [(0, .ref xo), (1, .int (nI k))]) (st2 := [.int (bI (canR P c k))]) rfl rfl rfl ?_
      refine g_pop hC dX5_redeem_46 rfl ?_
      refine g_aload_n hC 0 dX5_redeem_47 rfl rfl ?_
      refine g_get (C := RX5) (T := TX5) (N := 10) (ci := 5) (v := .ref xn) hC hcw5 0 rfl rfl 3 (by decide) w2 (fun _ h => h) rfl dX5_redeem_48 ?_
      refine g_aload_n hC 0 dX5_redeem_51 rfl rfl ?_
      refine g_get (C := RX5) (T := TX5) (N := 10) (ci := 5) (v := .ref xp) hC hcw5 0 rfl rfl 1 (by decide) w1 (fun _ h => h) rfl dX5_redeem_52 ?_
      refine g_iload_n hC 1 dX5_redeem_55 rfl rfl ?_
      refine g_callVip (As := [.int (nI k)]) (rest := [.ref xn]) hC (nI (P 0 k)) (c_X2_ownerOf l D cI cZ xp r ti np nq nd P k (by first | assumption | omega)) (cwV 1 hC.1.2.2.2.2 gX5_redeem_X2_ownerOf rfl rfl rfl dV_X2_ownerOf ⟨Nat.le_of_ble_eq_true rfl, Nat.le_of_ble_eq_true rfl⟩) rfl rfl rfl rfl (Nat.le_of_ble_eq_true rfl) dX5_redeem_56 ⟨Nat.le_of_ble_eq_true rfl, Nat.le_of_ble_eq_true rfl⟩ [3, 4] rfl rfl ?_
      refine g_callVip (As := [.int (nI (P 0 k))]) (rest := []) hC ((tryR P c k) (2 + (P 0 k))) (c_X3_purseOf l D cI cZ xn xp xnc (tryR P c k) (P 0 k) (by have := (hq4 k hk).1; omega)) (cwV 1 hC.1.2.2.2.2 gX5_redeem_X3_purseOf rfl rfl rfl dV_X3_purseOf ⟨Nat.le_of_ble_eq_true rfl, Nat.le_of_ble_eq_true rfl⟩) rfl rfl rfl rfl (Nat.le_of_ble_eq_true rfl) dX5_redeem_59 ⟨Nat.le_of_ble_eq_true rfl, Nat.le_of_ble_eq_true rfl⟩ [1, 2] rfl rfl ?_
      subst hQ
      refine g_iret (v := (tryR P c k) (2 + (P 0 k))) hC (tryR P c k, saveF f c u, ringU u, ringN cnt) hr ?_ rfl dX5_redeem_62
      rw [if_pos hin2, hKk, if_pos h21t]
    refine g_bipush (v := (-3)) hC dX5_redeem_24 (by decide +kernel) ?_
    subst hQ
    refine g_iret (v := -3) hC (c, f, u, cnt) hr ?_ rfl dX5_redeem_26
    rw [if_pos hin2, hKk, if_neg h21f]
  refine g_iconst (v := (-1)) hC dX5_redeem_11 rfl ?_
  subst hQ
  refine g_iret (v := -1) hC (c, f, u, cnt) hr ?_ rfl dX5_redeem_12
  rw [if_neg h8f]

abbrev rm_X5_give : Room := { frames := 3, cells := 0, slots := 0, locals := 66 }
set_option maxRecDepth 100000 in
set_option maxHeartbeats 4000000 in
theorem c_X5_give (l : Launch) (D : va_G) (cI cZ : ClassId) (xo : Nat) (xt : Nat) (xp : Nat) (xd : Nat) (xn : Nat) (xa : Nat) (xc : Nat) (xs : Nat) (xk : Nat) (ks : Int32) (ch : Int64) (xnc : Nat) (c : Nat → Int32) (r : Nat → Nat) (ti : Int32) (np : Nat) (nq : Nat) (nd : Nat) (P : Nat → Nat → Nat) (xcb : Nat) (f : Nat → Int32) (u : Nat) (cnt : Nat) (a : Int32) (v : Int32) (hW : WFP np nq nd P) (hu : u < 14) (hcnt : cnt ≤ 14) : CtI l yX5_give wsX5_give rm_X5_give D cI cZ [.ref xo, .int a, .int v] [(xo, o5 xt xp xd xn xa xc xs xk ks ch), (xn, .inr (3, [.ref xp, .ref xnc])), (xnc, .inl (cI, 20, .inl c)), (xp, o2 r ti np nq nd), (r 1, .inl (cI, 5, .inl (fun k_ => nI (P 0 k_)))), (r 2, .inl (cI, 5, .inl (fun k_ => nI (P 1 k_)))), (r 3, .inl (cI, 5, .inl (fun k_ => nI (P 2 k_)))), (r 4, .inl (cI, 5, .inl (fun k_ => nI (P 3 k_)))), (r 5, .inl (cI, 5, .inl (fun k_ => nI (P 4 k_)))), (r 6, .inl (cI, 5, .inl (fun k_ => nI (P 5 k_)))), (xc, .inr (0, [.ref xcb, .int (nI u), .int (nI cnt)])), (xcb, .inl (cI, 280, .inl f))] (fun (r : Int32) (z : (Nat → Int32) × (Nat → Int32) × Nat × Nat) => match z with | (c2, f2, u2, cnt2) => (r, c2, f2, u2, cnt2) = if inR a np then (if okG v then (tryG c (K a) v (2 + K a), tryG c (K a) v, saveF f c u, ringU u, ringN cnt) else ((-2), c, f, u, cnt)) else ((-1), c, f, u, cnt)) (fun (z : (Nat → Int32) × (Nat → Int32) × Nat × Nat) => match z with | (c2, f2, u2, cnt2) => [(xo, o5 xt xp xd xn xa xc xs xk ks ch), (xn, .inr (3, [.ref xp, .ref xnc])), (xnc, .inl (cI, 20, .inl c2)), (xp, o2 r ti np nq nd), (r 1, .inl (cI, 5, .inl (fun k_ => nI (P 0 k_)))), (r 2, .inl (cI, 5, .inl (fun k_ => nI (P 1 k_)))), (r 3, .inl (cI, 5, .inl (fun k_ => nI (P 2 k_)))), (r 4, .inl (cI, 5, .inl (fun k_ => nI (P 3 k_)))), (r 5, .inl (cI, 5, .inl (fun k_ => nI (P 4 k_)))), (r 6, .inl (cI, 5, .inl (fun k_ => nI (P 5 k_)))), (xc, .inr (0, [.ref xcb, .int (nI u2), .int (nI cnt2)])), (xcb, .inl (cI, 280, .inl f2))]) 0 0 := by
  refine g_startI (ret := (some .int)) (own := RX5) (lv0 := [(0, .ref xo), (1, .int a), (2, .int v)]) (by decide) rfl rfl (Nat.le_of_ble_eq_true rfl) rfl ?_
  intro p e s m args below meth cd A Q hin hr hQ hC
  have hcw5 : ∀ w ∈ wsX50, w ∈ wsX5_give := fun _ h => List.mem_cons_of_mem _ (List.mem_append_left _ (List.mem_append_left _ (List.mem_append_left _ (List.mem_append_right _ h))))
  have w1 := hC.1.2.2.2.2 (.fieldLink "PluckBroker" 19 "PluckBroker" "plan" "LPluckBroker$Plan;") (List.mem_of_getElem? (i := 1) rfl)
  have w2 := hC.1.2.2.2.2 (.fieldLink "PluckBroker" 41 "PluckBroker" "acts" "LPluckBroker$Acts;") (List.mem_of_getElem? (i := 2) rfl)
  have w3 := hC.1.2.2.2.2 (.fieldLink "PluckBroker" 31 "PluckBroker" "now" "LPluckBroker$State;") (List.mem_of_getElem? (i := 3) rfl)
  obtain ⟨⟨hnp, hnq, hnd⟩, hq4, hd5⟩ := id hW
  refine g_aload_n hC 0 dX5_give_0 rfl rfl ?_
  refine g_get (C := RX5) (T := TX5) (N := 10) (ci := 5) (v := .ref xp) hC hcw5 0 rfl rfl 1 (by decide) w1 (fun _ h => h) rfl dX5_give_1 ?_
  refine g_iload_n hC 1 dX5_give_4 rfl rfl ?_
  refine g_callVip (As := [.int a]) (rest := []) hC (bI (inR a np)) (c_X2_hasPerson l D cI cZ xp r ti np nq nd a (by omega)) (cwV 1 hC.1.2.2.2.2 gX5_give_X2_hasPerson rfl rfl rfl dV_X2_hasPerson ⟨Nat.le_of_ble_eq_true rfl, Nat.le_of_ble_eq_true rfl⟩) rfl rfl rfl rfl (Nat.le_of_ble_eq_true rfl) dX5_give_5 ⟨Nat.le_of_ble_eq_true rfl, Nat.le_of_ble_eq_true rfl⟩ [3] rfl rfl ?_
  refine g_if_ne_b hC 13 dX5_give_8 (by decide) (fun h8t => ?_) (fun h8f => ?_)
  · obtain ⟨k, hk, rfl⟩ := inR_n (by omega) h8t
    have hin2 := inR_k (n := np) (by omega) hk
    have hKk : K (nI k) = k := K_n (by omega)
    refine g_iload_n hC 2 dX5_give_13 rfl rfl ?_
    refine g_iconst (v := nI 1) hC dX5_give_14 rfl ?_
    refine g_icmp_lt hC 24 dX5_give_15 (by decide) (fun h15t => ?_) (fun h15f => ?_)
    · refine g_bipush (v := (-2)) hC dX5_give_24 (by decide +kernel) ?_
      subst hQ
      refine g_iret (v := -2) hC (c, f, u, cnt) hr ?_ rfl dX5_give_26
      rw [if_pos hin2, if_neg (fun q => absurd q.1 (Int32.not_le.mpr h15t))]
    refine g_iload_n hC 2 dX5_give_18 rfl rfl ?_
    refine g_bipush (v := nI 9) hC dX5_give_19 (by decide +kernel) ?_
    refine g_icmp_le hC 27 dX5_give_21 (by decide) (fun h21t => ?_) (fun h21f => ?_)
    · refine g_aload_n hC 0 dX5_give_27 rfl rfl ?_
      refine g_get (C := RX5) (T := TX5) (N := 10) (ci := 5) (v := .ref xc) hC hcw5 0 rfl rfl 5 (by decide) w2 (fun _ h => h) rfl dX5_give_28 ?_
      refine g_aload_n hC 0 dX5_give_31 rfl rfl ?_
      refine g_get (C := RX5) (T := TX5) (N := 10) (ci := 5) (v := .ref xn) hC hcw5 0 rfl rfl 3 (by decide) w3 (fun _ h => h) rfl dX5_give_32 ?_
      refine g_callVv (As := [.ref xn]) (rest := []) hC (c_X0_remember l D cI cZ xc xcb f u cnt xn xp xnc c (by first | assumption | omega) (by first | assumption | omega)) (cwV 1 hC.1.2.2.2.2 gX5_give_X0_remember rfl rfl rfl dV_X0_remember ⟨Nat.le_of_ble_eq_true rfl, Nat.le_of_ble_eq_true rfl⟩) rfl rfl rfl rfl (Nat.le_of_ble_eq_true rfl) dX5_give_35 ⟨Nat.le_of_ble_eq_true rfl, Nat.le_of_ble_eq_true rfl⟩ [10, 11, 1, 2] [0, 3, 4, 5, 6, 7, 8, 9] [0, 10, 11, 1, 2, 3, 4, 5, 6, 7, 8, 9] (fun (_ : Unit) => [(xo, o5 xt xp xd xn xa xc xs xk ks ch), (xn, .inr (3, [.ref xp, .ref xnc])), (xnc, .inl (cI, 20, .inl c)), (xp, o2 r ti np nq nd), (r 1, .inl (cI, 5, .inl (fun k_ => nI (P 0 k_)))), (r 2, .inl (cI, 5, .inl (fun k_ => nI (P 1 k_)))), (r 3, .inl (cI, 5, .inl (fun k_ => nI (P 2 k_)))), (r 4, .inl (cI, 5, .inl (fun k_ => nI (P 3 k_)))), (r 5, .inl (cI, 5, .inl (fun k_ => nI (P 4 k_)))), (r 6, .inl (cI, 5, .inl (fun k_ => nI (P 5 k_)))), (xc, .inr (0, [.ref xcb, .int (nI (ringU u)), .int (nI (ringN cnt))])), (xcb, .inl (cI, 280, .inl (saveF f c u)))]) rfl rfl rfl (fun _ => rfl) (fun z35 hp35 => ?_)
      refine g_is (ws2 := [(xo, o5 xt xp xd xn xa xc xs xk ks ch), (xn, .inr (3, [.ref xp, .ref xnc])), (xnc, .inl (cI, 20, .inl c)), (xp, o2 r ti np nq nd), (r 1, .inl (cI, 5, .inl (fun k_ => nI (P 0 k_)))), (r 2, .inl (cI, 5, .inl (fun k_ => nI (P 1 k_)))), (r 3, .inl (cI, 5, .inl (fun k_ => nI (P 2 k_)))), (r 4, .inl (cI, 5, .inl (fun k_ => nI (P 3 k_)))), (r 5, .inl (cI, 5, .inl (fun k_ => nI (P 4 k_)))), (r 6, .inl (cI, 5, .inl (fun k_ => nI (P 5 k_)))), (xc, .inr (0, [.ref xcb, .int (nI (ringU u)), .int (nI (ringN cnt))])), (xcb, .inl (cI, 280, .inl (saveF f c u)))]) (lv2 := [(0, .ref xo), (1, .int (nI k)), (2, .int v)]) (st2 := []) rfl rfl rfl ?_
      refine g_aload_n hC 0 dX5_give_38 rfl rfl ?_
      refine g_get (C := RX5) (T := TX5) (N := 10) (ci := 5) (v := .ref xn) hC hcw5 0 rfl rfl 3 (by decide) w3 (fun _ h => h) rfl dX5_give_39 ?_
      refine g_iload_n hC 1 dX5_give_42 rfl rfl ?_
      refine g_iload_n hC 2 dX5_give_43 rfl rfl ?_
      refine g_callVi (As := [.int (nI k), .int v]) (rest := []) hC (c_X3_tryGive l D cI cZ xn xp xnc c r ti np nq nd k v (by first | assumption | omega) (by first | assumption | omega)) (cwV 2 hC.1.2.2.2.2 gX5_give_X3_tryGive rfl rfl rfl dV_X3_tryGive ⟨Nat.le_of_ble_eq_true rfl, Nat.le_of_ble_eq_true rfl⟩) rfl rfl rfl rfl (Nat.le_of_ble_eq_true rfl) dX5_give_44 ⟨Nat.le_of_ble_eq_true rfl, Nat.le_of_ble_eq_true rfl⟩ [1, 2, 3] [0, 4, 5, 6, 7, 8, 9, 10, 11] [0, 9, 10, 11, 1, 2, 3, 4, 5, 6, 7, 8] (fun (_ : Unit) => [(xo, o5 xt xp xd xn xa xc xs xk ks ch), (xn, .inr (3, [.ref xp, .ref xnc])), (xnc, .inl (cI, 20, .inl (tryG c k v))), (xp, o2 r ti np nq nd), (r 1, .inl (cI, 5, .inl (fun k_ => nI (P 0 k_)))), (r 2, .inl (cI, 5, .inl (fun k_ => nI (P 1 k_)))), (r 3, .inl (cI, 5, .inl (fun k_ => nI (P 2 k_)))), (r 4, .inl (cI, 5, .inl (fun k_ => nI (P 3 k_)))), (r 5, .inl (cI, 5, .inl (fun k_ => nI (P 4 k_)))), (r 6, .inl (cI, 5, .inl (fun k_ => nI (P 5 k_)))), (xc, .inr (0, [.ref xcb, .int (nI (ringU u)), .int (nI (ringN cnt))])), (xcb, .inl (cI, 280, .inl (saveF f c u)))]) rfl rfl rfl (fun _ => rfl) (fun r44 z44 hp44 => ?_)
      try dsimp only at hp44
      subst hp44
      refine g_is (ws2 := [(xo, o5 xt xp xd xn xa xc xs xk ks ch), (xn, .inr (3, [.ref xp, .ref xnc])), (xnc, .inl (cI, 20, .inl (tryG c k v))), (xp, o2 r ti np nq nd), (r 1, .inl (cI, 5, .inl (fun k_ => nI (P 0 k_)))), (r 2, .inl (cI, 5, .inl (fun k_ => nI (P 1 k_)))), (r 3, .inl (cI, 5, .inl (fun k_ => nI (P 2 k_)))), (r 4, .inl (cI, 5, .inl (fun k_ => nI (P 3 k_)))), (r 5, .inl (cI, 5, .inl (fun k_ => nI (P 4 k_)))), (r 6, .inl (cI, 5, .inl (fun k_ => nI (P 5 k_)))), (xc, .inr (0, [.ref xcb, .int (nI (ringU u)), .int (nI (ringN cnt))])), (xcb, .inl (cI, 280, .inl (saveF f c u)))]) (lv2 := [(0, .ref xo), (1, .int (nI k)), (2, .int v)]) (st2 := [.int (bI (okG v))]) rfl rfl rfl ?_
      refine g_pop hC dX5_give_47 rfl ?_
      refine g_aload_n hC 0 dX5_give_48 rfl rfl ?_
      refine g_get (C := RX5) (T := TX5) (N := 10) (ci := 5) (v := .ref xn) hC hcw5 0 rfl rfl 3 (by decide) w3 (fun _ h => h) rfl dX5_give_49 ?_
      refine g_iload_n hC 1 dX5_give_52 rfl rfl ?_
      refine g_callVip (As := [.int (nI k)]) (rest := []) hC ((tryG c k v) (2 + k)) (c_X3_purseOf l D cI cZ xn xp xnc (tryG c k v) k (by first | assumption | omega)) (cwV 1 hC.1.2.2.2.2 gX5_give_X3_purseOf rfl rfl rfl dV_X3_purseOf ⟨Nat.le_of_ble_eq_true rfl, Nat.le_of_ble_eq_true rfl⟩) rfl rfl rfl rfl (Nat.le_of_ble_eq_true rfl) dX5_give_53 ⟨Nat.le_of_ble_eq_true rfl, Nat.le_of_ble_eq_true rfl⟩ [1, 2] rfl rfl ?_
      subst hQ
      refine g_iret (v := (tryG c k v) (2 + k)) hC (tryG c k v, saveF f c u, ringU u, ringN cnt) hr ?_ rfl dX5_give_56
      rw [if_pos hin2, if_pos ⟨Int32.not_lt.mp h15f, h21t⟩, hKk]
    refine g_bipush (v := (-2)) hC dX5_give_24 (by decide +kernel) ?_
    subst hQ
    refine g_iret (v := -2) hC (c, f, u, cnt) hr ?_ rfl dX5_give_26
    rw [if_pos hin2, if_neg (fun q => absurd q.2 h21f)]
  refine g_iconst (v := (-1)) hC dX5_give_11 rfl ?_
  subst hQ
  refine g_iret (v := -1) hC (c, f, u, cnt) hr ?_ rfl dX5_give_12
  rw [if_neg h8f]

abbrev rm_X5_undo : Room := { frames := 3, cells := 0, slots := 0, locals := 65 }
set_option maxRecDepth 100000 in
set_option maxHeartbeats 4000000 in
theorem c_X5_undo (l : Launch) (D : va_G) (cI cZ : ClassId) (xo : Nat) (xt : Nat) (xp : Nat) (xd : Nat) (xn : Nat) (xa : Nat) (xc : Nat) (xs : Nat) (xk : Nat) (ks : Int32) (ch : Int64) (xnc : Nat) (c : Nat → Int32) (r : Nat → Nat) (ti : Int32) (np : Nat) (nq : Nat) (nd : Nat) (xcb : Nat) (f : Nat → Int32) (u : Nat) (cnt : Nat) (hu : u < 14) (hcnt : cnt ≤ 14) : CtI l yX5_undo wsX5_undo rm_X5_undo D cI cZ [.ref xo] [(xo, o5 xt xp xd xn xa xc xs xk ks ch), (xn, .inr (3, [.ref xp, .ref xnc])), (xnc, .inl (cI, 20, .inl c)), (xc, .inr (0, [.ref xcb, .int (nI u), .int (nI cnt)])), (xcb, .inl (cI, 280, .inl f))] (fun (r : Int32) (z : (Nat → Int32) × (Nat → Int32) × Nat × Nat) => match z with | (c2, f2, u2, cnt2) => (r, c2, f2, u2, cnt2) = if cnt = 0 then ((-3), c, f, u, cnt) else (nI (cnt - 1), loadF f (ringD u), f, ringD u, cnt - 1)) (fun (z : (Nat → Int32) × (Nat → Int32) × Nat × Nat) => match z with | (c2, f2, u2, cnt2) => [(xo, o5 xt xp xd xn xa xc xs xk ks ch), (xn, .inr (3, [.ref xp, .ref xnc])), (xnc, .inl (cI, 20, .inl c2)), (xc, .inr (0, [.ref xcb, .int (nI u2), .int (nI cnt2)])), (xcb, .inl (cI, 280, .inl f2))]) 0 0 := by
  refine g_startI (ret := (some .int)) (own := RX5) (lv0 := [(0, .ref xo)]) (by decide) rfl rfl (Nat.le_of_ble_eq_true rfl) rfl ?_
  intro p e s m args below meth cd A Q hin hr hQ hC
  have hcw0 : ∀ w ∈ wsX00, w ∈ wsX5_undo := fun _ h => List.mem_cons_of_mem _ (List.mem_append_left _ (List.mem_append_right _ h))
  have hcw5 : ∀ w ∈ wsX50, w ∈ wsX5_undo := fun _ h => List.mem_cons_of_mem _ (List.mem_append_left _ (List.mem_append_left _ (List.mem_append_right _ h)))
  have w1 := hC.1.2.2.2.2 (.fieldLink "PluckBroker" 41 "PluckBroker" "acts" "LPluckBroker$Acts;") (List.mem_of_getElem? (i := 1) rfl)
  have w2 := hC.1.2.2.2.2 (.fieldLink "PluckBroker" 31 "PluckBroker" "now" "LPluckBroker$State;") (List.mem_of_getElem? (i := 2) rfl)
  refine g_aload_n hC 0 dX5_undo_0 rfl rfl ?_
  refine g_get (C := RX5) (T := TX5) (N := 10) (ci := 5) (v := .ref xc) hC hcw5 0 rfl rfl 5 (by decide) w1 (fun _ h => h) rfl dX5_undo_1 ?_
  refine g_getN (C := RX0) (T := TX0) (N := 3) (ci := 0) (v := .int (nI cnt)) hC hcw0 3 rfl rfl 2 (by decide) (hC.2.2.1.f 12 rfl) (fun _ h => h) rfl dX5_undo_4 ?_
  refine g_if_ne_n (a := cnt) hC (by omega) 13 dX5_undo_7 (by decide) (fun h7t => ?_) (fun h7f => ?_)
  · refine g_aload_n hC 0 dX5_undo_13 rfl rfl ?_
    refine g_get (C := RX5) (T := TX5) (N := 10) (ci := 5) (v := .ref xc) hC hcw5 0 rfl rfl 5 (by decide) w1 (fun _ h => h) rfl dX5_undo_14 ?_
    refine g_aload_n hC 0 dX5_undo_17 rfl rfl ?_
    refine g_get (C := RX5) (T := TX5) (N := 10) (ci := 5) (v := .ref xn) hC hcw5 0 rfl rfl 3 (by decide) w2 (fun _ h => h) rfl dX5_undo_18 ?_
    refine g_callVv (As := [.ref xn]) (rest := []) hC (c_X0_takeBack l D cI cZ xc xcb f u cnt xn xp xnc c (by first | assumption | omega) (by first | assumption | omega) (by first | assumption | omega)) (cwV 1 hC.1.2.2.2.2 gX5_undo_X0_takeBack rfl rfl rfl dV_X0_takeBack ⟨Nat.le_of_ble_eq_true rfl, Nat.le_of_ble_eq_true rfl⟩) rfl rfl rfl rfl (Nat.le_of_ble_eq_true rfl) dX5_undo_21 ⟨Nat.le_of_ble_eq_true rfl, Nat.le_of_ble_eq_true rfl⟩ [3, 4, 1, 2] [0] [0, 3, 4, 1, 2] (fun (_ : Unit) => [(xo, o5 xt xp xd xn xa xc xs xk ks ch), (xn, .inr (3, [.ref xp, .ref xnc])), (xnc, .inl (cI, 20, .inl (loadF f (ringD u)))), (xc, .inr (0, [.ref xcb, .int (nI (ringD u)), .int (nI (cnt - 1))])), (xcb, .inl (cI, 280, .inl f))]) rfl rfl rfl (fun _ => rfl) (fun z21 hp21 => ?_)
    refine g_is (ws2 := [(xo, o5 xt xp xd xn xa xc xs xk ks ch), (xn, .inr (3, [.ref xp, .ref xnc])), (xnc, .inl (cI, 20, .inl (loadF f (ringD u)))), (xc, .inr (0, [.ref xcb, .int (nI (ringD u)), .int (nI (cnt - 1))])), (xcb, .inl (cI, 280, .inl f))]) (lv2 := [(0, .ref xo)]) (st2 := []) rfl rfl rfl ?_
    refine g_aload_n hC 0 dX5_undo_24 rfl rfl ?_
    refine g_get (C := RX5) (T := TX5) (N := 10) (ci := 5) (v := .ref xc) hC hcw5 0 rfl rfl 5 (by decide) w1 (fun _ h => h) rfl dX5_undo_25 ?_
    refine g_getN (C := RX0) (T := TX0) (N := 3) (ci := 0) (v := .int (nI (cnt - 1))) hC hcw0 3 rfl rfl 2 (by decide) (hC.2.2.1.f 12 rfl) (fun _ h => h) rfl dX5_undo_28 ?_
    subst hQ
    refine g_iret (v := nI (cnt - 1)) hC (loadF f (ringD u), f, ringD u, cnt - 1) hr ?_ rfl dX5_undo_31
    rw [if_neg h7t]
  refine g_bipush (v := (-3)) hC dX5_undo_10 (by decide +kernel) ?_
  subst hQ
  refine g_iret (v := -3) hC (c, f, u, cnt) hr ?_ rfl dX5_undo_12
  rw [if_pos h7f]

abbrev rm_X5_isNoDaysAhead : Room := { frames := 0, cells := 0, slots := 0, locals := 0 }
set_option maxRecDepth 100000 in
set_option maxHeartbeats 4000000 in
theorem c_X5_isNoDaysAhead (l : Launch) (D : va_G) (cI cZ : ClassId) (a : Int32) : CtI l yX5_isNoDaysAhead wsX5_isNoDaysAhead rm_X5_isNoDaysAhead D cI cZ [.int a] [] (fun r (_ : Unit) => r = bI (¬ okN a)) (fun (_ : Unit) => []) 0 0 := by
  refine g_startI (ret := (some .boolean)) (own := RX5) (lv0 := [(0, .int a)]) (by decide) rfl rfl (Nat.le_of_ble_eq_true rfl) rfl ?_
  intro p e s m args below meth cd A Q hin hr hQ hC
  refine g_iload_n hC 0 dX5_isNoDaysAhead_0 rfl rfl ?_
  refine g_if_lt hC 10 dX5_isNoDaysAhead_1 (by decide) (fun h1t => ?_) (fun h1f => ?_)
  · refine g_iconst (v := nI 1) hC dX5_isNoDaysAhead_10 rfl ?_
    refine g_goto hC 15 dX5_isNoDaysAhead_11 (by decide) ?_
    subst hQ
    refine g_zret (v := nI 1) hC () hr (by decide +kernel) ?_ rfl dX5_isNoDaysAhead_15
    exact (bI_t (P := ¬ okN a) (fun q => absurd q.1 (Int32.not_le.mpr h1t))).symm
  refine g_iload_n hC 0 dX5_isNoDaysAhead_4 rfl rfl ?_
  refine g_bipush (v := nI 20) hC dX5_isNoDaysAhead_5 (by decide +kernel) ?_
  refine g_icmp_le hC 14 dX5_isNoDaysAhead_7 (by decide) (fun h7t => ?_) (fun h7f => ?_)
  · refine g_iconst (v := nI 0) hC dX5_isNoDaysAhead_14 rfl ?_
    subst hQ
    refine g_zret (v := nI 0) hC () hr (by decide +kernel) ?_ rfl dX5_isNoDaysAhead_15
    exact (bI_f (P := ¬ okN a) (fun q => q ⟨Int32.not_lt.mp h1f, h7t⟩)).symm
  refine g_iconst (v := nI 1) hC dX5_isNoDaysAhead_10 rfl ?_
  refine g_goto hC 15 dX5_isNoDaysAhead_11 (by decide) ?_
  subst hQ
  refine g_zret (v := nI 1) hC () hr (by decide +kernel) ?_ rfl dX5_isNoDaysAhead_15
  exact (bI_t (P := ¬ okN a) (fun q => absurd q.2 h7f)).symm

abbrev rm_X5_isNoChoice : Room := { frames := 0, cells := 0, slots := 0, locals := 0 }
set_option maxRecDepth 100000 in
set_option maxHeartbeats 4000000 in
theorem c_X5_isNoChoice (l : Launch) (D : va_G) (cI cZ : ClassId) (a : Int32) : CtI l yX5_isNoChoice wsX5_isNoChoice rm_X5_isNoChoice D cI cZ [.int a] [] (fun r (_ : Unit) => r = bI (¬ okC a)) (fun (_ : Unit) => []) 0 0 := by
  refine g_startI (ret := (some .boolean)) (own := RX5) (lv0 := [(0, .int a)]) (by decide) rfl rfl (Nat.le_of_ble_eq_true rfl) rfl ?_
  intro p e s m args below meth cd A Q hin hr hQ hC
  refine g_iload_n hC 0 dX5_isNoChoice_0 rfl rfl ?_
  refine g_if_lt hC 9 dX5_isNoChoice_1 (by decide) (fun h1t => ?_) (fun h1f => ?_)
  · refine g_iconst (v := nI 1) hC dX5_isNoChoice_9 rfl ?_
    refine g_goto hC 14 dX5_isNoChoice_10 (by decide) ?_
    subst hQ
    refine g_zret (v := nI 1) hC () hr (by decide +kernel) ?_ rfl dX5_isNoChoice_14
    exact (bI_t (P := ¬ okC a) (fun q => absurd q.1 (Int32.not_le.mpr h1t))).symm
  refine g_iload_n hC 0 dX5_isNoChoice_4 rfl rfl ?_
  refine g_iconst (v := nI 1) hC dX5_isNoChoice_5 rfl ?_
  refine g_icmp_le hC 13 dX5_isNoChoice_6 (by decide) (fun h6t => ?_) (fun h6f => ?_)
  · refine g_iconst (v := nI 0) hC dX5_isNoChoice_13 rfl ?_
    subst hQ
    refine g_zret (v := nI 0) hC () hr (by decide +kernel) ?_ rfl dX5_isNoChoice_14
    exact (bI_f (P := ¬ okC a) (fun q => q ⟨Int32.not_lt.mp h1f, h6t⟩)).symm
  refine g_iconst (v := nI 1) hC dX5_isNoChoice_9 rfl ?_
  refine g_goto hC 14 dX5_isNoChoice_10 (by decide) ?_
  subst hQ
  refine g_zret (v := nI 1) hC () hr (by decide +kernel) ?_ rfl dX5_isNoChoice_14
  exact (bI_t (P := ¬ okC a) (fun q => absurd q.2 h6f)).symm

abbrev rm_X5_lookAhead : Room := { frames := 4, cells := 0, slots := 0, locals := 88 }
set_option maxRecDepth 100000 in
set_option maxHeartbeats 4000000 in
theorem c_X5_lookAhead (l : Launch) (D : va_G) (cI cZ : ClassId) (xo : Nat) (xt : Nat) (xp : Nat) (xd : Nat) (xn : Nat) (xa : Nat) (xc : Nat) (xs : Nat) (xk : Nat) (ks : Int32) (ch : Int64) (xnc : Nat) (c : Nat → Int32) (xgc : Nat) (g : Nat → Int32) (r : Nat → Nat) (ti : Int32) (np : Nat) (nq : Nat) (nd : Nat) (P : Nat → Nat → Nat) (dn : Nat) (hW : WFP np nq nd P) (hdn : dn ≤ 20) : CtV l yX5_lookAhead wsX5_lookAhead rm_X5_lookAhead D cI cZ [.ref xo, .int (nI dn)] [(xo, o5 xt xp xd xn xa xc xs xk ks ch), (xn, .inr (3, [.ref xp, .ref xnc])), (xnc, .inl (cI, 20, .inl c)), (xa, .inr (3, [.ref xp, .ref xgc])), (xgc, .inl (cI, 20, .inl g)), (xp, o2 r ti np nq nd), (r 1, .inl (cI, 5, .inl (fun k_ => nI (P 0 k_)))), (r 2, .inl (cI, 5, .inl (fun k_ => nI (P 1 k_)))), (r 3, .inl (cI, 5, .inl (fun k_ => nI (P 2 k_)))), (r 4, .inl (cI, 5, .inl (fun k_ => nI (P 3 k_)))), (r 5, .inl (cI, 5, .inl (fun k_ => nI (P 4 k_)))), (r 6, .inl (cI, 5, .inl (fun k_ => nI (P 5 k_))))] (fun (_ : Unit) => True) (fun (_ : Unit) => [(xo, o5 xt xp xd xn xa xc xs xk ks ch), (xn, .inr (3, [.ref xp, .ref xnc])), (xnc, .inl (cI, 20, .inl c)), (xa, .inr (3, [.ref xp, .ref xgc])), (xgc, .inl (cI, 20, .inl (passN P nq nd c dn))), (xp, o2 r ti np nq nd), (r 1, .inl (cI, 5, .inl (fun k_ => nI (P 0 k_)))), (r 2, .inl (cI, 5, .inl (fun k_ => nI (P 1 k_)))), (r 3, .inl (cI, 5, .inl (fun k_ => nI (P 2 k_)))), (r 4, .inl (cI, 5, .inl (fun k_ => nI (P 3 k_)))), (r 5, .inl (cI, 5, .inl (fun k_ => nI (P 4 k_)))), (r 6, .inl (cI, 5, .inl (fun k_ => nI (P 5 k_))))]) 0 0 := by
  refine g_startV (ret := none) (own := RX5) (lv0 := [(0, .ref xo), (1, .int (nI dn))]) (by decide) rfl rfl (Nat.le_of_ble_eq_true rfl) rfl ?_
  intro p e s m args below meth cd A Q hin hr hQ hC
  have hcw5 : ∀ w ∈ wsX50, w ∈ wsX5_lookAhead := fun _ h => List.mem_cons_of_mem _ (List.mem_append_left _ (List.mem_append_left _ (List.mem_append_right _ h)))
  have w1 := hC.1.2.2.2.2 (.fieldLink "PluckBroker" 35 "PluckBroker" "ahead" "LPluckBroker$State;") (List.mem_of_getElem? (i := 1) rfl)
  have w2 := hC.1.2.2.2.2 (.fieldLink "PluckBroker" 31 "PluckBroker" "now" "LPluckBroker$State;") (List.mem_of_getElem? (i := 2) rfl)
  obtain ⟨⟨hnp, hnq, hnd⟩, hq4, hd5⟩ := id hW
  refine g_aload_n hC 0 dX5_lookAhead_0 rfl rfl ?_
  refine g_get (C := RX5) (T := TX5) (N := 10) (ci := 5) (v := .ref xa) hC hcw5 0 rfl rfl 4 (by decide) w1 (fun _ h => h) rfl dX5_lookAhead_1 ?_
  refine g_aload_n hC 0 dX5_lookAhead_4 rfl rfl ?_
  refine g_get (C := RX5) (T := TX5) (N := 10) (ci := 5) (v := .ref xn) hC hcw5 0 rfl rfl 3 (by decide) w2 (fun _ h => h) rfl dX5_lookAhead_5 ?_
  refine g_callVv (As := [.ref xn]) (rest := []) hC (c_X3_copy l D cI cZ xa xp xgc g xn xp xnc c) (cwV 1 hC.1.2.2.2.2 gX5_lookAhead_X3_copy rfl rfl rfl dV_X3_copy ⟨Nat.le_of_ble_eq_true rfl, Nat.le_of_ble_eq_true rfl⟩) rfl rfl rfl rfl (Nat.le_of_ble_eq_true rfl) dX5_lookAhead_8 ⟨Nat.le_of_ble_eq_true rfl, Nat.le_of_ble_eq_true rfl⟩ [3, 4, 1, 2] [0, 5, 6, 7, 8, 9, 10, 11] [0, 10, 11, 8, 9, 1, 2, 3, 4, 5, 6, 7] (fun (_ : Unit) => [(xo, o5 xt xp xd xn xa xc xs xk ks ch), (xn, .inr (3, [.ref xp, .ref xnc])), (xnc, .inl (cI, 20, .inl c)), (xa, .inr (3, [.ref xp, .ref xgc])), (xgc, .inl (cI, 20, .inl c)), (xp, o2 r ti np nq nd), (r 1, .inl (cI, 5, .inl (fun k_ => nI (P 0 k_)))), (r 2, .inl (cI, 5, .inl (fun k_ => nI (P 1 k_)))), (r 3, .inl (cI, 5, .inl (fun k_ => nI (P 2 k_)))), (r 4, .inl (cI, 5, .inl (fun k_ => nI (P 3 k_)))), (r 5, .inl (cI, 5, .inl (fun k_ => nI (P 4 k_)))), (r 6, .inl (cI, 5, .inl (fun k_ => nI (P 5 k_))))]) rfl rfl rfl (fun _ => rfl) (fun z8 hp8 => ?_)
  refine g_is (ws2 := [(xo, o5 xt xp xd xn xa xc xs xk ks ch), (xn, .inr (3, [.ref xp, .ref xnc])), (xnc, .inl (cI, 20, .inl c)), (xa, .inr (3, [.ref xp, .ref xgc])), (xgc, .inl (cI, 20, .inl c)), (xp, o2 r ti np nq nd), (r 1, .inl (cI, 5, .inl (fun k_ => nI (P 0 k_)))), (r 2, .inl (cI, 5, .inl (fun k_ => nI (P 1 k_)))), (r 3, .inl (cI, 5, .inl (fun k_ => nI (P 2 k_)))), (r 4, .inl (cI, 5, .inl (fun k_ => nI (P 3 k_)))), (r 5, .inl (cI, 5, .inl (fun k_ => nI (P 4 k_)))), (r 6, .inl (cI, 5, .inl (fun k_ => nI (P 5 k_))))]) (lv2 := [(0, .ref xo), (1, .int (nI dn))]) (st2 := []) rfl rfl rfl ?_
  refine g_iconst (v := nI 0) hC dX5_lookAhead_11 rfl ?_
  refine g_istore_n (lv' := [(0, .ref xo), (1, .int (nI dn)), (2, .int (nI 0))]) hC [1, 2, 0] dX5_lookAhead_12 rfl (by decide) rfl ?_
  have L13 : ∀ (n : Nat) (i : Nat) (gg : Nat → Int32), (i ≤ dn) → (gg = passN P nq nd c i) → dn - i < n → G p l e rm_X5_lookAhead s m args below meth cd D A 0 0 Q 3 [(xo, o5 xt xp xd xn xa xc xs xk ks ch), (xn, .inr (3, [.ref xp, .ref xnc])), (xnc, .inl (cI, 20, .inl c)), (xa, .inr (3, [.ref xp, .ref xgc])), (xgc, .inl (cI, 20, .inl gg)), (xp, o2 r ti np nq nd), (r 1, .inl (cI, 5, .inl (fun k_ => nI (P 0 k_)))), (r 2, .inl (cI, 5, .inl (fun k_ => nI (P 1 k_)))), (r 3, .inl (cI, 5, .inl (fun k_ => nI (P 2 k_)))), (r 4, .inl (cI, 5, .inl (fun k_ => nI (P 3 k_)))), (r 5, .inl (cI, 5, .inl (fun k_ => nI (P 4 k_)))), (r 6, .inl (cI, 5, .inl (fun k_ => nI (P 5 k_))))] 13 [(0, .ref xo), (1, .int (nI dn)), (2, .int (nI i))] [] := by
    intro n
    induction n with
    | zero => intro i gg hi hg hn; exact absurd hn (Nat.not_lt_zero _)
    | succ n ih13 =>
      intro i gg hi hg hn
      refine g_iload_n hC 2 dX5_lookAhead_13 rfl rfl ?_
      refine g_iload_n hC 1 dX5_lookAhead_14 rfl rfl ?_
      refine g_icmp_ge_n (a := i) (b := dn) hC (by omega) (by omega) 32 dX5_lookAhead_15 (by decide) (fun h15t => ?_) (fun h15f => ?_)
      · have ei : i = dn := by omega
        rw [ei] at hg
        have ecell : gg = (passN P nq nd c dn) := by exact hg
        refine g_ws (ws2 := [(xo, o5 xt xp xd xn xa xc xs xk ks ch), (xn, .inr (3, [.ref xp, .ref xnc])), (xnc, .inl (cI, 20, .inl c)), (xa, .inr (3, [.ref xp, .ref xgc])), (xgc, .inl (cI, 20, .inl (passN P nq nd c dn))), (xp, o2 r ti np nq nd), (r 1, .inl (cI, 5, .inl (fun k_ => nI (P 0 k_)))), (r 2, .inl (cI, 5, .inl (fun k_ => nI (P 1 k_)))), (r 3, .inl (cI, 5, .inl (fun k_ => nI (P 2 k_)))), (r 4, .inl (cI, 5, .inl (fun k_ => nI (P 3 k_)))), (r 5, .inl (cI, 5, .inl (fun k_ => nI (P 4 k_)))), (r 6, .inl (cI, 5, .inl (fun k_ => nI (P 5 k_))))]) (congrArg (fun zz : Nat → Int32 => ([(xo, o5 xt xp xd xn xa xc xs xk ks ch), (xn, .inr (3, [.ref xp, .ref xnc])), (xnc, .inl (cI, 20, .inl c)), (xa, .inr (3, [.ref xp, .ref xgc])), (xgc, .inl (cI, 20, .inl zz)), (xp, o2 r ti np nq nd), (r 1, .inl (cI, 5, .inl (fun k_ => nI (P 0 k_)))), (r 2, .inl (cI, 5, .inl (fun k_ => nI (P 1 k_)))), (r 3, .inl (cI, 5, .inl (fun k_ => nI (P 2 k_)))), (r 4, .inl (cI, 5, .inl (fun k_ => nI (P 3 k_)))), (r 5, .inl (cI, 5, .inl (fun k_ => nI (P 4 k_)))), (r 6, .inl (cI, 5, .inl (fun k_ => nI (P 5 k_))))] : va_W)) ecell) ?_
        subst hQ
        refine g_vret hC () hr ?_ rfl dX5_lookAhead_32
        trivial
      refine g_aload_n hC 0 dX5_lookAhead_18 rfl rfl ?_
      refine g_get (C := RX5) (T := TX5) (N := 10) (ci := 5) (v := .ref xa) hC hcw5 0 rfl rfl 4 (by decide) w1 (fun _ h => h) rfl dX5_lookAhead_19 ?_
      refine g_callVi (As := []) (rest := []) hC (c_X3_passDay l D cI cZ xa xp xgc gg r ti np nq nd P (by first | assumption | omega)) (cwV 0 hC.1.2.2.2.2 gX5_lookAhead_X3_passDay rfl rfl rfl dV_X3_passDay ⟨Nat.le_of_ble_eq_true rfl, Nat.le_of_ble_eq_true rfl⟩) rfl rfl rfl rfl (Nat.le_of_ble_eq_true rfl) dX5_lookAhead_22 ⟨Nat.le_of_ble_eq_true rfl, Nat.le_of_ble_eq_true rfl⟩ [3, 4, 5, 6, 7, 8, 9, 10, 11] [0, 1, 2] [0, 1, 2, 3, 4, 5, 6, 7, 8, 9, 10, 11] (fun (_ : Unit) => [(xo, o5 xt xp xd xn xa xc xs xk ks ch), (xn, .inr (3, [.ref xp, .ref xnc])), (xnc, .inl (cI, 20, .inl c)), (xa, .inr (3, [.ref xp, .ref xgc])), (xgc, .inl (cI, 20, .inl (passF P nq nd gg))), (xp, o2 r ti np nq nd), (r 1, .inl (cI, 5, .inl (fun k_ => nI (P 0 k_)))), (r 2, .inl (cI, 5, .inl (fun k_ => nI (P 1 k_)))), (r 3, .inl (cI, 5, .inl (fun k_ => nI (P 2 k_)))), (r 4, .inl (cI, 5, .inl (fun k_ => nI (P 3 k_)))), (r 5, .inl (cI, 5, .inl (fun k_ => nI (P 4 k_)))), (r 6, .inl (cI, 5, .inl (fun k_ => nI (P 5 k_))))]) rfl rfl rfl (fun _ => rfl) (fun r22 z22 hp22 => ?_)
      try dsimp only at hp22
      subst hp22
      refine g_is (ws2 := [(xo, o5 xt xp xd xn xa xc xs xk ks ch), (xn, .inr (3, [.ref xp, .ref xnc])), (xnc, .inl (cI, 20, .inl c)), (xa, .inr (3, [.ref xp, .ref xgc])), (xgc, .inl (cI, 20, .inl (passF P nq nd gg))), (xp, o2 r ti np nq nd), (r 1, .inl (cI, 5, .inl (fun k_ => nI (P 0 k_)))), (r 2, .inl (cI, 5, .inl (fun k_ => nI (P 1 k_)))), (r 3, .inl (cI, 5, .inl (fun k_ => nI (P 2 k_)))), (r 4, .inl (cI, 5, .inl (fun k_ => nI (P 3 k_)))), (r 5, .inl (cI, 5, .inl (fun k_ => nI (P 4 k_)))), (r 6, .inl (cI, 5, .inl (fun k_ => nI (P 5 k_))))]) (lv2 := [(0, .ref xo), (1, .int (nI dn)), (2, .int (nI i))]) (st2 := [.int (nI (cntD P gg nd))]) rfl rfl rfl ?_
      refine g_pop hC dX5_lookAhead_25 rfl ?_
      refine g_iinc (v := nI (i + 1)) (lv' := [(0, .ref xo), (1, .int (nI dn)), (2, .int (nI (i + 1)))]) hC 2 [1, 2, 0] dX5_lookAhead_26 rfl (nI_add _ 1) (by decide) rfl ?_
      refine g_goto hC 13 dX5_lookAhead_29 (by decide) ?_
      refine ih13 (i + 1) (passF P nq nd gg) ?_ ?_ ?_
      · omega
      · rw [hg]; rfl
      · omega
  refine L13 _ 0 c ?_ ?_ (Nat.lt_succ_self _)
  · omega
  · rfl

abbrev rm_X5_due : Room := { frames := 5, cells := 0, slots := 0, locals := 110 }
set_option maxRecDepth 100000 in
set_option maxHeartbeats 4000000 in
theorem c_X5_due (l : Launch) (D : va_G) (cI cZ : ClassId) (xo : Nat) (xt : Nat) (xp : Nat) (xd : Nat) (xn : Nat) (xa : Nat) (xc : Nat) (xs : Nat) (xk : Nat) (ks : Int32) (ch : Int64) (xnc : Nat) (c : Nat → Int32) (xgc : Nat) (g : Nat → Int32) (r : Nat → Nat) (ti : Int32) (np : Nat) (nq : Nat) (nd : Nat) (P : Nat → Nat → Nat) (a : Int32) (b : Int32) (hW : WFP np nq nd P) : CtI l yX5_due wsX5_due rm_X5_due D cI cZ [.ref xo, .int a, .int b] [(xo, o5 xt xp xd xn xa xc xs xk ks ch), (xn, .inr (3, [.ref xp, .ref xnc])), (xnc, .inl (cI, 20, .inl c)), (xa, .inr (3, [.ref xp, .ref xgc])), (xgc, .inl (cI, 20, .inl g)), (xp, o2 r ti np nq nd), (r 1, .inl (cI, 5, .inl (fun k_ => nI (P 0 k_)))), (r 2, .inl (cI, 5, .inl (fun k_ => nI (P 1 k_)))), (r 3, .inl (cI, 5, .inl (fun k_ => nI (P 2 k_)))), (r 4, .inl (cI, 5, .inl (fun k_ => nI (P 3 k_)))), (r 5, .inl (cI, 5, .inl (fun k_ => nI (P 4 k_)))), (r 6, .inl (cI, 5, .inl (fun k_ => nI (P 5 k_))))] (fun (r : Int32) (g2 : (Nat → Int32)) => r = dueR nq nd P c a b) (fun (g2 : (Nat → Int32)) => [(xo, o5 xt xp xd xn xa xc xs xk ks ch), (xn, .inr (3, [.ref xp, .ref xnc])), (xnc, .inl (cI, 20, .inl c)), (xa, .inr (3, [.ref xp, .ref xgc])), (xgc, .inl (cI, 20, .inl g2)), (xp, o2 r ti np nq nd), (r 1, .inl (cI, 5, .inl (fun k_ => nI (P 0 k_)))), (r 2, .inl (cI, 5, .inl (fun k_ => nI (P 1 k_)))), (r 3, .inl (cI, 5, .inl (fun k_ => nI (P 2 k_)))), (r 4, .inl (cI, 5, .inl (fun k_ => nI (P 3 k_)))), (r 5, .inl (cI, 5, .inl (fun k_ => nI (P 4 k_)))), (r 6, .inl (cI, 5, .inl (fun k_ => nI (P 5 k_))))]) 0 0 := by
  refine g_startI (ret := (some .int)) (own := RX5) (lv0 := [(0, .ref xo), (1, .int a), (2, .int b)]) (by decide) rfl rfl (Nat.le_of_ble_eq_true rfl) rfl ?_
  intro p e s m args below meth cd A Q hin hr hQ hC
  have hcw5 : ∀ w ∈ wsX50, w ∈ wsX5_due := fun _ h => List.mem_cons_of_mem _ (List.mem_append_left _ (List.mem_append_left _ (List.mem_append_right _ h)))
  have w1 := hC.1.2.2.2.2 (.fieldLink "PluckBroker" 19 "PluckBroker" "plan" "LPluckBroker$Plan;") (List.mem_of_getElem? (i := 1) rfl)
  have w2 := hC.1.2.2.2.2 (.fieldLink "PluckBroker" 35 "PluckBroker" "ahead" "LPluckBroker$State;") (List.mem_of_getElem? (i := 2) rfl)
  obtain ⟨⟨hnp, hnq, hnd⟩, hq4, hd5⟩ := id hW
  refine g_aload_n hC 0 dX5_due_0 rfl rfl ?_
  refine g_get (C := RX5) (T := TX5) (N := 10) (ci := 5) (v := .ref xp) hC hcw5 0 rfl rfl 1 (by decide) w1 (fun _ h => h) rfl dX5_due_1 ?_
  refine g_iload_n hC 1 dX5_due_4 rfl rfl ?_
  refine g_callVip (As := [.int a]) (rest := []) hC (bI (inR a nq)) (c_X2_hasQuality l D cI cZ xp r ti np nq nd a hnq) (cwV 1 hC.1.2.2.2.2 gX5_due_X2_hasQuality rfl rfl rfl dV_X2_hasQuality ⟨Nat.le_of_ble_eq_true rfl, Nat.le_of_ble_eq_true rfl⟩) rfl rfl rfl rfl (Nat.le_of_ble_eq_true rfl) dX5_due_5 ⟨Nat.le_of_ble_eq_true rfl, Nat.le_of_ble_eq_true rfl⟩ [5] rfl rfl ?_
  refine g_if_ne_b hC 13 dX5_due_8 (by decide) (fun h8t => ?_) (fun h8f => ?_)
  · obtain ⟨k, hk, rfl⟩ := inR_n (by omega) h8t
    have hin2 := inR_k (n := nq) (by omega) hk
    have hKk : K (nI k) = k := K_n (by omega)
    refine g_iload_n hC 2 dX5_due_13 rfl rfl ?_
    refine g_callSip (As := [.int b]) (rest := []) hC (bI (¬ okN b)) (c_X5_isNoDaysAhead l D cI cZ b) (va_cwS 1 hC.1.2.2.2.2 gX5_due_X5_isNoDaysAhead rfl rfl rfl dS_X5_isNoDaysAhead ⟨Nat.le_of_ble_eq_true rfl, Nat.le_of_ble_eq_true rfl⟩) rfl rfl (Nat.le_of_ble_eq_true rfl) dX5_due_14 ⟨Nat.le_of_ble_eq_true rfl, Nat.le_of_ble_eq_true rfl⟩ [] rfl rfl ?_
    refine g_if_eq_b hC 23 dX5_due_17 (by decide) (fun h17t => ?_) (fun h17f => ?_)
    · obtain ⟨dn, hdn, rfl⟩ := ok_n (M := 20) (by decide) (Decidable.not_not.mp h17t)
      have okb : okN (nI dn) := ok_k (M := 20) (by decide) hdn
      have hKb : K (nI dn) = dn := K_n (by omega)
      refine g_aload_n hC 0 dX5_due_23 rfl rfl ?_
      refine g_iload_n hC 2 dX5_due_24 rfl rfl ?_
      refine g_callVv (As := [.int (nI dn)]) (rest := []) hC (c_X5_lookAhead l D cI cZ xo xt xp xd xn xa xc xs xk ks ch xnc c xgc g r ti np nq nd P dn (by first | assumption | omega) (by first | assumption | omega)) (cwV 1 hC.1.2.2.2.2 gX5_due_X5_lookAhead rfl rfl rfl dV_X5_lookAhead ⟨Nat.le_of_ble_eq_true rfl, Nat.le_of_ble_eq_true rfl⟩) rfl rfl rfl rfl (Nat.le_of_ble_eq_true rfl) dX5_due_25 ⟨Nat.le_of_ble_eq_true rfl, Nat.le_of_ble_eq_true rfl⟩ [0, 1, 2, 3, 4, 5, 6, 7, 8, 9, 10, 11] [] [0, 1, 2, 3, 4, 5, 6, 7, 8, 9, 10, 11] (fun (_ : Unit) => [(xo, o5 xt xp xd xn xa xc xs xk ks ch), (xn, .inr (3, [.ref xp, .ref xnc])), (xnc, .inl (cI, 20, .inl c)), (xa, .inr (3, [.ref xp, .ref xgc])), (xgc, .inl (cI, 20, .inl (passN P nq nd c dn))), (xp, o2 r ti np nq nd), (r 1, .inl (cI, 5, .inl (fun k_ => nI (P 0 k_)))), (r 2, .inl (cI, 5, .inl (fun k_ => nI (P 1 k_)))), (r 3, .inl (cI, 5, .inl (fun k_ => nI (P 2 k_)))), (r 4, .inl (cI, 5, .inl (fun k_ => nI (P 3 k_)))), (r 5, .inl (cI, 5, .inl (fun k_ => nI (P 4 k_)))), (r 6, .inl (cI, 5, .inl (fun k_ => nI (P 5 k_))))]) rfl rfl rfl (fun _ => rfl) (fun z25 hp25 => ?_)
      refine g_is (ws2 := [(xo, o5 xt xp xd xn xa xc xs xk ks ch), (xn, .inr (3, [.ref xp, .ref xnc])), (xnc, .inl (cI, 20, .inl c)), (xa, .inr (3, [.ref xp, .ref xgc])), (xgc, .inl (cI, 20, .inl (passN P nq nd c dn))), (xp, o2 r ti np nq nd), (r 1, .inl (cI, 5, .inl (fun k_ => nI (P 0 k_)))), (r 2, .inl (cI, 5, .inl (fun k_ => nI (P 1 k_)))), (r 3, .inl (cI, 5, .inl (fun k_ => nI (P 2 k_)))), (r 4, .inl (cI, 5, .inl (fun k_ => nI (P 3 k_)))), (r 5, .inl (cI, 5, .inl (fun k_ => nI (P 4 k_)))), (r 6, .inl (cI, 5, .inl (fun k_ => nI (P 5 k_))))]) (lv2 := [(0, .ref xo), (1, .int (nI k)), (2, .int (nI dn))]) (st2 := []) rfl rfl rfl ?_
      refine g_aload_n hC 0 dX5_due_28 rfl rfl ?_
      refine g_get (C := RX5) (T := TX5) (N := 10) (ci := 5) (v := .ref xa) hC hcw5 0 rfl rfl 4 (by decide) w2 (fun _ h => h) rfl dX5_due_29 ?_
      refine g_iload_n hC 1 dX5_due_32 rfl rfl ?_
      refine g_callVip (As := [.int (nI k)]) (rest := []) hC (owed P (passN P nq nd c dn) k) (c_X3_owedFor l D cI cZ xa xp xgc (passN P nq nd c dn) r ti np nq nd P k (by first | assumption | omega)) (cwV 1 hC.1.2.2.2.2 gX5_due_X3_owedFor rfl rfl rfl dV_X3_owedFor ⟨Nat.le_of_ble_eq_true rfl, Nat.le_of_ble_eq_true rfl⟩) rfl rfl rfl rfl (Nat.le_of_ble_eq_true rfl) dX5_due_33 ⟨Nat.le_of_ble_eq_true rfl, Nat.le_of_ble_eq_true rfl⟩ [3, 4, 5, 6, 7, 8, 9, 10, 11] rfl rfl ?_
      subst hQ
      refine g_iret (v := owed P (passN P nq nd c dn) k) hC (passN P nq nd c dn) hr ?_ rfl dX5_due_36
      rw [dueR, if_pos hin2, if_pos okb, hKk, hKb]
    refine g_bipush (v := (-2)) hC dX5_due_20 (by decide +kernel) ?_
    subst hQ
    refine g_iret (v := -2) hC (g) hr ?_ rfl dX5_due_22
    rw [dueR, if_pos hin2, if_neg h17f]
  refine g_iconst (v := (-1)) hC dX5_due_11 rfl ?_
  subst hQ
  refine g_iret (v := -1) hC (g) hr ?_ rfl dX5_due_12
  rw [dueR, if_neg h8f]

abbrev rm_X5_done : Room := { frames := 5, cells := 0, slots := 0, locals := 110 }
set_option maxRecDepth 100000 in
set_option maxHeartbeats 4000000 in
theorem c_X5_done (l : Launch) (D : va_G) (cI cZ : ClassId) (xo : Nat) (xt : Nat) (xp : Nat) (xd : Nat) (xn : Nat) (xa : Nat) (xc : Nat) (xs : Nat) (xk : Nat) (ks : Int32) (ch : Int64) (xnc : Nat) (c : Nat → Int32) (xgc : Nat) (g : Nat → Int32) (r : Nat → Nat) (ti : Int32) (np : Nat) (nq : Nat) (nd : Nat) (P : Nat → Nat → Nat) (b : Int32) (hW : WFP np nq nd P) : CtI l yX5_done wsX5_done rm_X5_done D cI cZ [.ref xo, .int b] [(xo, o5 xt xp xd xn xa xc xs xk ks ch), (xn, .inr (3, [.ref xp, .ref xnc])), (xnc, .inl (cI, 20, .inl c)), (xa, .inr (3, [.ref xp, .ref xgc])), (xgc, .inl (cI, 20, .inl g)), (xp, o2 r ti np nq nd), (r 1, .inl (cI, 5, .inl (fun k_ => nI (P 0 k_)))), (r 2, .inl (cI, 5, .inl (fun k_ => nI (P 1 k_)))), (r 3, .inl (cI, 5, .inl (fun k_ => nI (P 2 k_)))), (r 4, .inl (cI, 5, .inl (fun k_ => nI (P 3 k_)))), (r 5, .inl (cI, 5, .inl (fun k_ => nI (P 4 k_)))), (r 6, .inl (cI, 5, .inl (fun k_ => nI (P 5 k_))))] (fun (r : Int32) (g2 : (Nat → Int32)) => r = doneR nq nd P c b) (fun (g2 : (Nat → Int32)) => [(xo, o5 xt xp xd xn xa xc xs xk ks ch), (xn, .inr (3, [.ref xp, .ref xnc])), (xnc, .inl (cI, 20, .inl c)), (xa, .inr (3, [.ref xp, .ref xgc])), (xgc, .inl (cI, 20, .inl g2)), (xp, o2 r ti np nq nd), (r 1, .inl (cI, 5, .inl (fun k_ => nI (P 0 k_)))), (r 2, .inl (cI, 5, .inl (fun k_ => nI (P 1 k_)))), (r 3, .inl (cI, 5, .inl (fun k_ => nI (P 2 k_)))), (r 4, .inl (cI, 5, .inl (fun k_ => nI (P 3 k_)))), (r 5, .inl (cI, 5, .inl (fun k_ => nI (P 4 k_)))), (r 6, .inl (cI, 5, .inl (fun k_ => nI (P 5 k_))))]) 0 0 := by
  refine g_startI (ret := (some .int)) (own := RX5) (lv0 := [(0, .ref xo), (1, .int b)]) (by decide) rfl rfl (Nat.le_of_ble_eq_true rfl) rfl ?_
  intro p e s m args below meth cd A Q hin hr hQ hC
  have hcw5 : ∀ w ∈ wsX50, w ∈ wsX5_done := fun _ h => List.mem_cons_of_mem _ (List.mem_append_left _ (List.mem_append_left _ (List.mem_append_right _ h)))
  have w1 := hC.1.2.2.2.2 (.fieldLink "PluckBroker" 35 "PluckBroker" "ahead" "LPluckBroker$State;") (List.mem_of_getElem? (i := 1) rfl)
  obtain ⟨⟨hnp, hnq, hnd⟩, hq4, hd5⟩ := id hW
  refine g_iload_n hC 1 dX5_done_0 rfl rfl ?_
  refine g_callSip (As := [.int b]) (rest := []) hC (bI (¬ okN b)) (c_X5_isNoDaysAhead l D cI cZ b) (va_cwS 1 hC.1.2.2.2.2 gX5_done_X5_isNoDaysAhead rfl rfl rfl dS_X5_isNoDaysAhead ⟨Nat.le_of_ble_eq_true rfl, Nat.le_of_ble_eq_true rfl⟩) rfl rfl (Nat.le_of_ble_eq_true rfl) dX5_done_1 ⟨Nat.le_of_ble_eq_true rfl, Nat.le_of_ble_eq_true rfl⟩ [] rfl rfl ?_
  refine g_if_eq_b hC 10 dX5_done_4 (by decide) (fun h4t => ?_) (fun h4f => ?_)
  · obtain ⟨dn, hdn, rfl⟩ := ok_n (M := 20) (by decide) (Decidable.not_not.mp h4t)
    have okb : okN (nI dn) := ok_k (M := 20) (by decide) hdn
    have hKb : K (nI dn) = dn := K_n (by omega)
    refine g_aload_n hC 0 dX5_done_10 rfl rfl ?_
    refine g_iload_n hC 1 dX5_done_11 rfl rfl ?_
    refine g_callVv (As := [.int (nI dn)]) (rest := []) hC (c_X5_lookAhead l D cI cZ xo xt xp xd xn xa xc xs xk ks ch xnc c xgc g r ti np nq nd P dn (by first | assumption | omega) (by first | assumption | omega)) (cwV 1 hC.1.2.2.2.2 gX5_done_X5_lookAhead rfl rfl rfl dV_X5_lookAhead ⟨Nat.le_of_ble_eq_true rfl, Nat.le_of_ble_eq_true rfl⟩) rfl rfl rfl rfl (Nat.le_of_ble_eq_true rfl) dX5_done_12 ⟨Nat.le_of_ble_eq_true rfl, Nat.le_of_ble_eq_true rfl⟩ [0, 1, 2, 3, 4, 5, 6, 7, 8, 9, 10, 11] [] [0, 1, 2, 3, 4, 5, 6, 7, 8, 9, 10, 11] (fun (_ : Unit) => [(xo, o5 xt xp xd xn xa xc xs xk ks ch), (xn, .inr (3, [.ref xp, .ref xnc])), (xnc, .inl (cI, 20, .inl c)), (xa, .inr (3, [.ref xp, .ref xgc])), (xgc, .inl (cI, 20, .inl (passN P nq nd c dn))), (xp, o2 r ti np nq nd), (r 1, .inl (cI, 5, .inl (fun k_ => nI (P 0 k_)))), (r 2, .inl (cI, 5, .inl (fun k_ => nI (P 1 k_)))), (r 3, .inl (cI, 5, .inl (fun k_ => nI (P 2 k_)))), (r 4, .inl (cI, 5, .inl (fun k_ => nI (P 3 k_)))), (r 5, .inl (cI, 5, .inl (fun k_ => nI (P 4 k_)))), (r 6, .inl (cI, 5, .inl (fun k_ => nI (P 5 k_))))]) rfl rfl rfl (fun _ => rfl) (fun z12 hp12 => ?_)
    refine g_is (ws2 := [(xo, o5 xt xp xd xn xa xc xs xk ks ch), (xn, .inr (3, [.ref xp, .ref xnc])), (xnc, .inl (cI, 20, .inl c)), (xa, .inr (3, [.ref xp, .ref xgc])), (xgc, .inl (cI, 20, .inl (passN P nq nd c dn))), (xp, o2 r ti np nq nd), (r 1, .inl (cI, 5, .inl (fun k_ => nI (P 0 k_)))), (r 2, .inl (cI, 5, .inl (fun k_ => nI (P 1 k_)))), (r 3, .inl (cI, 5, .inl (fun k_ => nI (P 2 k_)))), (r 4, .inl (cI, 5, .inl (fun k_ => nI (P 3 k_)))), (r 5, .inl (cI, 5, .inl (fun k_ => nI (P 4 k_)))), (r 6, .inl (cI, 5, .inl (fun k_ => nI (P 5 k_))))]) (lv2 := [(0, .ref xo), (1, .int (nI dn))]) (st2 := []) rfl rfl rfl ?_
    refine g_aload_n hC 0 dX5_done_15 rfl rfl ?_
    refine g_get (C := RX5) (T := TX5) (N := 10) (ci := 5) (v := .ref xa) hC hcw5 0 rfl rfl 4 (by decide) w1 (fun _ h => h) rfl dX5_done_16 ?_
    refine g_iconst (v := nI 1) hC dX5_done_19 rfl ?_
    refine g_callVip (As := [.int (nI 1)]) (rest := []) hC (nI (deedsThat nd (passN P nq nd c dn) (nI 1))) (c_X3_deedsThatAre l D cI cZ xa xp xgc (passN P nq nd c dn) r ti np nq nd (nI 1) hnd) (cwV 1 hC.1.2.2.2.2 gX5_done_X3_deedsThatAre rfl rfl rfl dV_X3_deedsThatAre ⟨Nat.le_of_ble_eq_true rfl, Nat.le_of_ble_eq_true rfl⟩) rfl rfl rfl rfl (Nat.le_of_ble_eq_true rfl) dX5_done_20 ⟨Nat.le_of_ble_eq_true rfl, Nat.le_of_ble_eq_true rfl⟩ [3, 4, 5] rfl rfl ?_
    subst hQ
    refine g_iret (v := nI (deedsThat nd (passN P nq nd c dn) (nI 1))) hC (passN P nq nd c dn) hr ?_ rfl dX5_done_23
    rw [doneR, if_pos okb, hKb]
  refine g_bipush (v := (-2)) hC dX5_done_7 (by decide +kernel) ?_
  subst hQ
  refine g_iret (v := -2) hC (g) hr ?_ rfl dX5_done_9
  rw [doneR, if_neg h4f]

abbrev rm_X5_coins : Room := { frames := 5, cells := 0, slots := 0, locals := 110 }
set_option maxRecDepth 100000 in
set_option maxHeartbeats 4000000 in
theorem c_X5_coins (l : Launch) (D : va_G) (cI cZ : ClassId) (xo : Nat) (xt : Nat) (xp : Nat) (xd : Nat) (xn : Nat) (xa : Nat) (xc : Nat) (xs : Nat) (xk : Nat) (ks : Int32) (ch : Int64) (xnc : Nat) (c : Nat → Int32) (xgc : Nat) (g : Nat → Int32) (r : Nat → Nat) (ti : Int32) (np : Nat) (nq : Nat) (nd : Nat) (P : Nat → Nat → Nat) (a : Int32) (b : Int32) (hW : WFP np nq nd P) : CtI l yX5_coins wsX5_coins rm_X5_coins D cI cZ [.ref xo, .int a, .int b] [(xo, o5 xt xp xd xn xa xc xs xk ks ch), (xn, .inr (3, [.ref xp, .ref xnc])), (xnc, .inl (cI, 20, .inl c)), (xa, .inr (3, [.ref xp, .ref xgc])), (xgc, .inl (cI, 20, .inl g)), (xp, o2 r ti np nq nd), (r 1, .inl (cI, 5, .inl (fun k_ => nI (P 0 k_)))), (r 2, .inl (cI, 5, .inl (fun k_ => nI (P 1 k_)))), (r 3, .inl (cI, 5, .inl (fun k_ => nI (P 2 k_)))), (r 4, .inl (cI, 5, .inl (fun k_ => nI (P 3 k_)))), (r 5, .inl (cI, 5, .inl (fun k_ => nI (P 4 k_)))), (r 6, .inl (cI, 5, .inl (fun k_ => nI (P 5 k_))))] (fun (r : Int32) (g2 : (Nat → Int32)) => r = coinsR np nq nd P c a b) (fun (g2 : (Nat → Int32)) => [(xo, o5 xt xp xd xn xa xc xs xk ks ch), (xn, .inr (3, [.ref xp, .ref xnc])), (xnc, .inl (cI, 20, .inl c)), (xa, .inr (3, [.ref xp, .ref xgc])), (xgc, .inl (cI, 20, .inl g2)), (xp, o2 r ti np nq nd), (r 1, .inl (cI, 5, .inl (fun k_ => nI (P 0 k_)))), (r 2, .inl (cI, 5, .inl (fun k_ => nI (P 1 k_)))), (r 3, .inl (cI, 5, .inl (fun k_ => nI (P 2 k_)))), (r 4, .inl (cI, 5, .inl (fun k_ => nI (P 3 k_)))), (r 5, .inl (cI, 5, .inl (fun k_ => nI (P 4 k_)))), (r 6, .inl (cI, 5, .inl (fun k_ => nI (P 5 k_))))]) 0 0 := by
  refine g_startI (ret := (some .int)) (own := RX5) (lv0 := [(0, .ref xo), (1, .int a), (2, .int b)]) (by decide) rfl rfl (Nat.le_of_ble_eq_true rfl) rfl ?_
  intro p e s m args below meth cd A Q hin hr hQ hC
  have hcw5 : ∀ w ∈ wsX50, w ∈ wsX5_coins := fun _ h => List.mem_cons_of_mem _ (List.mem_append_left _ (List.mem_append_left _ (List.mem_append_right _ h)))
  have w1 := hC.1.2.2.2.2 (.fieldLink "PluckBroker" 19 "PluckBroker" "plan" "LPluckBroker$Plan;") (List.mem_of_getElem? (i := 1) rfl)
  have w2 := hC.1.2.2.2.2 (.fieldLink "PluckBroker" 35 "PluckBroker" "ahead" "LPluckBroker$State;") (List.mem_of_getElem? (i := 2) rfl)
  obtain ⟨⟨hnp, hnq, hnd⟩, hq4, hd5⟩ := id hW
  refine g_aload_n hC 0 dX5_coins_0 rfl rfl ?_
  refine g_get (C := RX5) (T := TX5) (N := 10) (ci := 5) (v := .ref xp) hC hcw5 0 rfl rfl 1 (by decide) w1 (fun _ h => h) rfl dX5_coins_1 ?_
  refine g_iload_n hC 1 dX5_coins_4 rfl rfl ?_
  refine g_callVip (As := [.int a]) (rest := []) hC (bI (inR a np)) (c_X2_hasPerson l D cI cZ xp r ti np nq nd a (by omega)) (cwV 1 hC.1.2.2.2.2 gX5_coins_X2_hasPerson rfl rfl rfl dV_X2_hasPerson ⟨Nat.le_of_ble_eq_true rfl, Nat.le_of_ble_eq_true rfl⟩) rfl rfl rfl rfl (Nat.le_of_ble_eq_true rfl) dX5_coins_5 ⟨Nat.le_of_ble_eq_true rfl, Nat.le_of_ble_eq_true rfl⟩ [5] rfl rfl ?_
  refine g_if_ne_b hC 13 dX5_coins_8 (by decide) (fun h8t => ?_) (fun h8f => ?_)
  · obtain ⟨k, hk, rfl⟩ := inR_n (by omega) h8t
    have hin2 := inR_k (n := np) (by omega) hk
    have hKk : K (nI k) = k := K_n (by omega)
    refine g_iload_n hC 2 dX5_coins_13 rfl rfl ?_
    refine g_callSip (As := [.int b]) (rest := []) hC (bI (¬ okN b)) (c_X5_isNoDaysAhead l D cI cZ b) (va_cwS 1 hC.1.2.2.2.2 gX5_coins_X5_isNoDaysAhead rfl rfl rfl dS_X5_isNoDaysAhead ⟨Nat.le_of_ble_eq_true rfl, Nat.le_of_ble_eq_true rfl⟩) rfl rfl (Nat.le_of_ble_eq_true rfl) dX5_coins_14 ⟨Nat.le_of_ble_eq_true rfl, Nat.le_of_ble_eq_true rfl⟩ [] rfl rfl ?_
    refine g_if_eq_b hC 23 dX5_coins_17 (by decide) (fun h17t => ?_) (fun h17f => ?_)
    · obtain ⟨dn, hdn, rfl⟩ := ok_n (M := 20) (by decide) (Decidable.not_not.mp h17t)
      have okb : okN (nI dn) := ok_k (M := 20) (by decide) hdn
      have hKb : K (nI dn) = dn := K_n (by omega)
      refine g_aload_n hC 0 dX5_coins_23 rfl rfl ?_
      refine g_iload_n hC 2 dX5_coins_24 rfl rfl ?_
      refine g_callVv (As := [.int (nI dn)]) (rest := []) hC (c_X5_lookAhead l D cI cZ xo xt xp xd xn xa xc xs xk ks ch xnc c xgc g r ti np nq nd P dn (by first | assumption | omega) (by first | assumption | omega)) (cwV 1 hC.1.2.2.2.2 gX5_coins_X5_lookAhead rfl rfl rfl dV_X5_lookAhead ⟨Nat.le_of_ble_eq_true rfl, Nat.le_of_ble_eq_true rfl⟩) rfl rfl rfl rfl (Nat.le_of_ble_eq_true rfl) dX5_coins_25 ⟨Nat.le_of_ble_eq_true rfl, Nat.le_of_ble_eq_true rfl⟩ [0, 1, 2, 3, 4, 5, 6, 7, 8, 9, 10, 11] [] [0, 1, 2, 3, 4, 5, 6, 7, 8, 9, 10, 11] (fun (_ : Unit) => [(xo, o5 xt xp xd xn xa xc xs xk ks ch), (xn, .inr (3, [.ref xp, .ref xnc])), (xnc, .inl (cI, 20, .inl c)), (xa, .inr (3, [.ref xp, .ref xgc])), (xgc, .inl (cI, 20, .inl (passN P nq nd c dn))), (xp, o2 r ti np nq nd), (r 1, .inl (cI, 5, .inl (fun k_ => nI (P 0 k_)))), (r 2, .inl (cI, 5, .inl (fun k_ => nI (P 1 k_)))), (r 3, .inl (cI, 5, .inl (fun k_ => nI (P 2 k_)))), (r 4, .inl (cI, 5, .inl (fun k_ => nI (P 3 k_)))), (r 5, .inl (cI, 5, .inl (fun k_ => nI (P 4 k_)))), (r 6, .inl (cI, 5, .inl (fun k_ => nI (P 5 k_))))]) rfl rfl rfl (fun _ => rfl) (fun z25 hp25 => ?_)
      refine g_is (ws2 := [(xo, o5 xt xp xd xn xa xc xs xk ks ch), (xn, .inr (3, [.ref xp, .ref xnc])), (xnc, .inl (cI, 20, .inl c)), (xa, .inr (3, [.ref xp, .ref xgc])), (xgc, .inl (cI, 20, .inl (passN P nq nd c dn))), (xp, o2 r ti np nq nd), (r 1, .inl (cI, 5, .inl (fun k_ => nI (P 0 k_)))), (r 2, .inl (cI, 5, .inl (fun k_ => nI (P 1 k_)))), (r 3, .inl (cI, 5, .inl (fun k_ => nI (P 2 k_)))), (r 4, .inl (cI, 5, .inl (fun k_ => nI (P 3 k_)))), (r 5, .inl (cI, 5, .inl (fun k_ => nI (P 4 k_)))), (r 6, .inl (cI, 5, .inl (fun k_ => nI (P 5 k_))))]) (lv2 := [(0, .ref xo), (1, .int (nI k)), (2, .int (nI dn))]) (st2 := []) rfl rfl rfl ?_
      refine g_aload_n hC 0 dX5_coins_28 rfl rfl ?_
      refine g_get (C := RX5) (T := TX5) (N := 10) (ci := 5) (v := .ref xa) hC hcw5 0 rfl rfl 4 (by decide) w2 (fun _ h => h) rfl dX5_coins_29 ?_
      refine g_iload_n hC 1 dX5_coins_32 rfl rfl ?_
      refine g_callVip (As := [.int (nI k)]) (rest := []) hC ((passN P nq nd c dn) (2 + k)) (c_X3_purseOf l D cI cZ xa xp xgc (passN P nq nd c dn) k (by first | assumption | omega)) (cwV 1 hC.1.2.2.2.2 gX5_coins_X3_purseOf rfl rfl rfl dV_X3_purseOf ⟨Nat.le_of_ble_eq_true rfl, Nat.le_of_ble_eq_true rfl⟩) rfl rfl rfl rfl (Nat.le_of_ble_eq_true rfl) dX5_coins_33 ⟨Nat.le_of_ble_eq_true rfl, Nat.le_of_ble_eq_true rfl⟩ [3, 4] rfl rfl ?_
      subst hQ
      refine g_iret (v := (passN P nq nd c dn) (2 + k)) hC (passN P nq nd c dn) hr ?_ rfl dX5_coins_36
      rw [coinsR, if_pos hin2, if_pos okb, hKk, hKb]
    refine g_bipush (v := (-2)) hC dX5_coins_20 (by decide +kernel) ?_
    subst hQ
    refine g_iret (v := -2) hC (g) hr ?_ rfl dX5_coins_22
    rw [coinsR, if_pos hin2, if_neg h17f]
  refine g_iconst (v := (-1)) hC dX5_coins_11 rfl ?_
  subst hQ
  refine g_iret (v := -1) hC (g) hr ?_ rfl dX5_coins_12
  rw [coinsR, if_neg h8f]
