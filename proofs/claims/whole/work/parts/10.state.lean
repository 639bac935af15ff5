abbrev rm_X5_cell : Room := { frames := 0, cells := 0, slots := 0, locals := 0 }
set_option maxRecDepth 100000 in
set_option maxHeartbeats 4000000 in
theorem c_X5_cell (l : Launch) (D : va_G) (cI cZ : ClassId) (a : Nat) (n : Nat) (f : Nat → Int32) (k : Nat) (hk : k < n) (hn : n < 2 ^ 31) : CtI l yX5_cell wsX5_cell rm_X5_cell D cI cZ [.ref a, .int (nI k)] [(a, .inl (cI, n, .inl f))] (fun r (_ : Unit) => r = f k) (fun (_ : Unit) => [(a, .inl (cI, n, .inl f))]) 0 0 := by
  refine g_startI (ret := (some .int)) (own := RX5) (lv0 := [(0, .ref a), (1, .int (nI k))]) (by decide) rfl rfl (Nat.le_of_ble_eq_true rfl) rfl ?_
  intro p e s m args below meth cd A Q hin hr hQ hC
  refine g_iload_n hC 1 dX5_cell_0 rfl rfl ?_
  refine g_if_lt_n (a := k) hC (by omega) 16 dX5_cell_1 (by decide) (fun q => q.elim) (fun _ => ?_)
  refine g_iload_n hC 1 dX5_cell_4 rfl rfl ?_
  refine g_aload_n hC 0 dX5_cell_5 rfl rfl ?_
  refine g_alen hC 0 rfl dX5_cell_6 ?_
  refine g_icmp_ge_n (a := k) (b := n) hC (by omega) (by omega) 16 dX5_cell_7 (by decide) (fun q => (by omega : False).elim) (fun h7f => ?_)
  refine g_aload_n hC 0 dX5_cell_10 rfl rfl ?_
  refine g_iload_n hC 1 dX5_cell_11 rfl rfl ?_
  refine g_iald hC 0 rfl k rfl (by omega) (by omega) dX5_cell_12 ?_
  refine g_goto hC 17 dX5_cell_13 (by decide) ?_
  subst hQ
  refine g_iret (v := f k) hC () hr ?_ rfl dX5_cell_17
  rfl

abbrev rm_X5_put : Room := { frames := 0, cells := 0, slots := 0, locals := 0 }
set_option maxRecDepth 100000 in
set_option maxHeartbeats 4000000 in
theorem c_X5_put (l : Launch) (D : va_G) (cI cZ : ClassId) (a : Nat) (n : Nat) (f : Nat → Int32) (k : Nat) (v : Int32) (hk : k < n) (hn : n < 2 ^ 31) : CtV l yX5_put wsX5_put rm_X5_put D cI cZ [.ref a, .int (nI k), .int v] [(a, .inl (cI, n, .inl f))] (fun (_ : Unit) => True) (fun (_ : Unit) => [(a, .inl (cI, n, .inl (upd f k v)))]) 0 0 := by
  refine g_startV (ret := none) (own := RX5) (lv0 := [(0, .ref a), (1, .int (nI k)), (2, .int v)]) (by decide) rfl rfl (Nat.le_of_ble_eq_true rfl) rfl ?_
  intro p e s m args below meth cd A Q hin hr hQ hC
  refine g_iload_n hC 1 dX5_put_0 rfl rfl ?_
  refine g_if_lt_n (a := k) hC (by omega) 14 dX5_put_1 (by decide) (fun q => q.elim) (fun _ => ?_)
  refine g_iload_n hC 1 dX5_put_4 rfl rfl ?_
  refine g_aload_n hC 0 dX5_put_5 rfl rfl ?_
  refine g_alen hC 0 rfl dX5_put_6 ?_
  refine g_icmp_ge_n (a := k) (b := n) hC (by omega) (by omega) 14 dX5_put_7 (by decide) (fun q => (by omega : False).elim) (fun h7f => ?_)
  refine g_aload_n hC 0 dX5_put_10 rfl rfl ?_
  refine g_iload_n hC 1 dX5_put_11 rfl rfl ?_
  refine g_iload_n hC 2 dX5_put_12 rfl rfl ?_
  refine g_iast hC 0 rfl k rfl (by omega) (by omega) [(a, .inl (cI, n, .inl (upd f k v)))] rfl dX5_put_13 ?_
  subst hQ
  refine g_vret hC () hr ?_ rfl dX5_put_14
  trivial

abbrev rm_X2_ownerOf : Room := { frames := 1, cells := 0, slots := 0, locals := 21 }
set_option maxRecDepth 100000 in
set_option maxHeartbeats 4000000 in
theorem c_X2_ownerOf (l : Launch) (D : va_G) (cI cZ : ClassId) (hp : Nat) (r : Nat → Nat) (ti : Int32) (np : Nat) (nq : Nat) (nd : Nat) (P : Nat → Nat → Nat) (k : Nat) (hk : k < 5) : CtI l yX2_ownerOf wsX2_ownerOf rm_X2_ownerOf D cI cZ [.ref hp, .int (nI k)] [(hp, o2 r ti np nq nd), (r 1, .inl (cI, 5, .inl (fun k_ => nI (P 0 k_))))] (fun r (_ : Unit) => r = nI (P 0 k)) (fun (_ : Unit) => [(hp, o2 r ti np nq nd), (r 1, .inl (cI, 5, .inl (fun k_ => nI (P 0 k_))))]) 0 0 := by
  refine g_startI (ret := (some .int)) (own := RX2) (lv0 := [(0, .ref hp), (1, .int (nI k))]) (by decide) rfl rfl (Nat.le_of_ble_eq_true rfl) rfl ?_
  intro p e s m args below meth cd A Q hin hr hQ hC
  have hcw2 : ∀ w ∈ wsX20, w ∈ wsX2_ownerOf := fun _ h => List.mem_cons_of_mem _ (List.mem_append_right _ h)
  have w1 := hC.1.2.2.2.2 (.fieldLink "PluckBroker$Plan" 15 "PluckBroker$Plan" "owners" "[I") (List.mem_of_getElem? (i := 1) rfl)
  have w2 := hC.1.2.2.2.2 (.static ⟨"PluckBroker", "cell", "([II)I"⟩) (List.mem_of_getElem? (i := 2) rfl)
  have w3 := hC.1.2.2.2.2 (.initialized "PluckBroker") (List.mem_of_getElem? (i := 3) rfl)
  refine g_aload_n hC 0 dX2_ownerOf_0 rfl rfl ?_
  refine g_get (C := RX2) (T := TX2) (N := 11) (ci := 2) (v := .ref (r 1)) hC hcw2 0 rfl rfl 1 (by decide) w1 (fun _ h => h) rfl dX2_ownerOf_1 ?_
  refine g_iload_n hC 1 dX2_ownerOf_4 rfl rfl ?_
  refine g_callSNip (As := [.ref (r 1), .int (nI k)]) (rest := []) hC (nI (P 0 k)) (c_X5_cell l D cI cZ (r 1) 5 (fun k_ => nI (P 0 k_)) k (by first | assumption | omega) (by first | assumption | omega)) ⟨va_cnB 2 hC.1.2.2.2.2 gX2_ownerOf_X5_cell_n50 rfl rfl rfl (hC.2.2.1.m 8 rfl) w3 dS_X5_cell ⟨Nat.le_of_ble_eq_true rfl, Nat.le_of_ble_eq_true rfl⟩, w2, trivial⟩ rfl rfl (Nat.le_of_ble_eq_true rfl) dX2_ownerOf_5 ⟨Nat.le_of_ble_eq_true rfl, Nat.le_of_ble_eq_true rfl⟩ [1] rfl rfl ?_
  subst hQ
  refine g_iret (v := nI (P 0 k)) hC () hr ?_ rfl dX2_ownerOf_8
  rfl

abbrev rm_X2_worthOf : Room := { frames := 1, cells := 0, slots := 0, locals := 21 }
set_option maxRecDepth 100000 in
set_option maxHeartbeats 4000000 in
theorem c_X2_worthOf (l : Launch) (D : va_G) (cI cZ : ClassId) (hp : Nat) (r : Nat → Nat) (ti : Int32) (np : Nat) (nq : Nat) (nd : Nat) (P : Nat → Nat → Nat) (k : Nat) (hk : k < 5) : CtI l yX2_worthOf wsX2_worthOf rm_X2_worthOf D cI cZ [.ref hp, .int (nI k)] [(hp, o2 r ti np nq nd), (r 2, .inl (cI, 5, .inl (fun k_ => nI (P 1 k_))))] (fun r (_ : Unit) => r = nI (P 1 k)) (fun (_ : Unit) => [(hp, o2 r ti np nq nd), (r 2, .inl (cI, 5, .inl (fun k_ => nI (P 1 k_))))]) 0 0 := by
  refine g_startI (ret := (some .int)) (own := RX2) (lv0 := [(0, .ref hp), (1, .int (nI k))]) (by decide) rfl rfl (Nat.le_of_ble_eq_true rfl) rfl ?_
  intro p e s m args below meth cd A Q hin hr hQ hC
  have hcw2 : ∀ w ∈ wsX20, w ∈ wsX2_worthOf := fun _ h => List.mem_cons_of_mem _ (List.mem_append_right _ h)
  have w1 := hC.1.2.2.2.2 (.fieldLink "PluckBroker$Plan" 18 "PluckBroker$Plan" "worths" "[I") (List.mem_of_getElem? (i := 1) rfl)
  have w2 := hC.1.2.2.2.2 (.static ⟨"PluckBroker", "cell", "([II)I"⟩) (List.mem_of_getElem? (i := 2) rfl)
  have w3 := hC.1.2.2.2.2 (.initialized "PluckBroker") (List.mem_of_getElem? (i := 3) rfl)
  refine g_aload_n hC 0 dX2_worthOf_0 rfl rfl ?_
  refine g_get (C := RX2) (T := TX2) (N := 11) (ci := 2) (v := .ref (r 2)) hC hcw2 0 rfl rfl 2 (by decide) w1 (fun _ h => h) rfl dX2_worthOf_1 ?_
  refine g_iload_n hC 1 dX2_worthOf_4 rfl rfl ?_
  refine g_callSNip (As := [.ref (r 2), .int (nI k)]) (rest := []) hC (nI (P 1 k)) (c_X5_cell l D cI cZ (r 2) 5 (fun k_ => nI (P 1 k_)) k (by first | assumption | omega) (by first | assumption | omega)) ⟨va_cnB 2 hC.1.2.2.2.2 gX2_worthOf_X5_cell_n50 rfl rfl rfl (hC.2.2.1.m 8 rfl) w3 dS_X5_cell ⟨Nat.le_of_ble_eq_true rfl, Nat.le_of_ble_eq_true rfl⟩, w2, trivial⟩ rfl rfl (Nat.le_of_ble_eq_true rfl) dX2_worthOf_5 ⟨Nat.le_of_ble_eq_true rfl, Nat.le_of_ble_eq_true rfl⟩ [1] rfl rfl ?_
  subst hQ
  refine g_iret (v := nI (P 1 k)) hC () hr ?_ rfl dX2_worthOf_8
  rfl

abbrev rm_X2_kindOf : Room := { frames := 1, cells := 0, slots := 0, locals := 21 }
set_option maxRecDepth 100000 in
set_option maxHeartbeats 4000000 in
theorem c_X2_kindOf (l : Launch) (D : va_G) (cI cZ : ClassId) (hp : Nat) (r : Nat → Nat) (ti : Int32) (np : Nat) (nq : Nat) (nd : Nat) (P : Nat → Nat → Nat) (k : Nat) (hk : k < 5) : CtI l yX2_kindOf wsX2_kindOf rm_X2_kindOf D cI cZ [.ref hp, .int (nI k)] [(hp, o2 r ti np nq nd), (r 3, .inl (cI, 5, .inl (fun k_ => nI (P 2 k_))))] (fun r (_ : Unit) => r = nI (P 2 k)) (fun (_ : Unit) => [(hp, o2 r ti np nq nd), (r 3, .inl (cI, 5, .inl (fun k_ => nI (P 2 k_))))]) 0 0 := by
  refine g_startI (ret := (some .int)) (own := RX2) (lv0 := [(0, .ref hp), (1, .int (nI k))]) (by decide) rfl rfl (Nat.le_of_ble_eq_true rfl) rfl ?_
  intro p e s m args below meth cd A Q hin hr hQ hC
  have hcw2 : ∀ w ∈ wsX20, w ∈ wsX2_kindOf := fun _ h => List.mem_cons_of_mem _ (List.mem_append_right _ h)
  have w1 := hC.1.2.2.2.2 (.fieldLink "PluckBroker$Plan" 21 "PluckBroker$Plan" "kinds" "[I") (List.mem_of_getElem? (i := 1) rfl)
  have w2 := hC.1.2.2.2.2 (.static ⟨"PluckBroker", "cell", "([II)I"⟩) (List.mem_of_getElem? (i := 2) rfl)
  have w3 := hC.1.2.2.2.2 (.initialized "PluckBroker") (List.mem_of_getElem? (i := 3) rfl)
  refine g_aload_n hC 0 dX2_kindOf_0 rfl rfl ?_
  refine g_get (C := RX2) (T := TX2) (N := 11) (ci := 2) (v := .ref (r 3)) hC hcw2 0 rfl rfl 3 (by decide) w1 (fun _ h => h) rfl dX2_kindOf_1 ?_
  refine g_iload_n hC 1 dX2_kindOf_4 rfl rfl ?_
  refine g_callSNip (As := [.ref (r 3), .int (nI k)]) (rest := []) hC (nI (P 2 k)) (c_X5_cell l D cI cZ (r 3) 5 (fun k_ => nI (P 2 k_)) k (by first | assumption | omega) (by first | assumption | omega)) ⟨va_cnB 2 hC.1.2.2.2.2 gX2_kindOf_X5_cell_n50 rfl rfl rfl (hC.2.2.1.m 8 rfl) w3 dS_X5_cell ⟨Nat.le_of_ble_eq_true rfl, Nat.le_of_ble_eq_true rfl⟩, w2, trivial⟩ rfl rfl (Nat.le_of_ble_eq_true rfl) dX2_kindOf_5 ⟨Nat.le_of_ble_eq_true rfl, Nat.le_of_ble_eq_true rfl⟩ [1] rfl rfl ?_
  subst hQ
  refine g_iret (v := nI (P 2 k)) hC () hr ?_ rfl dX2_kindOf_8
  rfl

abbrev rm_X2_wantedBy : Room := { frames := 1, cells := 0, slots := 0, locals := 21 }
set_option maxRecDepth 100000 in
set_option maxHeartbeats 4000000 in
theorem c_X2_wantedBy (l : Launch) (D : va_G) (cI cZ : ClassId) (hp : Nat) (r : Nat → Nat) (ti : Int32) (np : Nat) (nq : Nat) (nd : Nat) (P : Nat → Nat → Nat) (k : Nat) (hk : k < 5) : CtI l yX2_wantedBy wsX2_wantedBy rm_X2_wantedBy D cI cZ [.ref hp, .int (nI k)] [(hp, o2 r ti np nq nd), (r 4, .inl (cI, 5, .inl (fun k_ => nI (P 3 k_))))] (fun r (_ : Unit) => r = nI (P 3 k)) (fun (_ : Unit) => [(hp, o2 r ti np nq nd), (r 4, .inl (cI, 5, .inl (fun k_ => nI (P 3 k_))))]) 0 0 := by
  refine g_startI (ret := (some .int)) (own := RX2) (lv0 := [(0, .ref hp), (1, .int (nI k))]) (by decide) rfl rfl (Nat.le_of_ble_eq_true rfl) rfl ?_
  intro p e s m args below meth cd A Q hin hr hQ hC
  have hcw2 : ∀ w ∈ wsX20, w ∈ wsX2_wantedBy := fun _ h => List.mem_cons_of_mem _ (List.mem_append_right _ h)
  have w1 := hC.1.2.2.2.2 (.fieldLink "PluckBroker$Plan" 24 "PluckBroker$Plan" "wanted" "[I") (List.mem_of_getElem? (i := 1) rfl)
  have w2 := hC.1.2.2.2.2 (.static ⟨"PluckBroker", "cell", "([II)I"⟩) (List.mem_of_getElem? (i := 2) rfl)
  have w3 := hC.1.2.2.2.2 (.initialized "PluckBroker") (List.mem_of_getElem? (i := 3) rfl)
  refine g_aload_n hC 0 dX2_wantedBy_0 rfl rfl ?_
  refine g_get (C := RX2) (T := TX2) (N := 11) (ci := 2) (v := .ref (r 4)) hC hcw2 0 rfl rfl 4 (by decide) w1 (fun _ h => h) rfl dX2_wantedBy_1 ?_
  refine g_iload_n hC 1 dX2_wantedBy_4 rfl rfl ?_
  refine g_callSNip (As := [.ref (r 4), .int (nI k)]) (rest := []) hC (nI (P 3 k)) (c_X5_cell l D cI cZ (r 4) 5 (fun k_ => nI (P 3 k_)) k (by first | assumption | omega) (by first | assumption | omega)) ⟨va_cnB 2 hC.1.2.2.2.2 gX2_wantedBy_X5_cell_n50 rfl rfl rfl (hC.2.2.1.m 8 rfl) w3 dS_X5_cell ⟨Nat.le_of_ble_eq_true rfl, Nat.le_of_ble_eq_true rfl⟩, w2, trivial⟩ rfl rfl (Nat.le_of_ble_eq_true rfl) dX2_wantedBy_5 ⟨Nat.le_of_ble_eq_true rfl, Nat.le_of_ble_eq_true rfl⟩ [1] rfl rfl ?_
  subst hQ
  refine g_iret (v := nI (P 3 k)) hC () hr ?_ rfl dX2_wantedBy_8
  rfl

abbrev rm_X2_dayOf : Room := { frames := 1, cells := 0, slots := 0, locals := 21 }
set_option maxRecDepth 100000 in
set_option maxHeartbeats 4000000 in
theorem c_X2_dayOf (l : Launch) (D : va_G) (cI cZ : ClassId) (hp : Nat) (r : Nat → Nat) (ti : Int32) (np : Nat) (nq : Nat) (nd : Nat) (P : Nat → Nat → Nat) (k : Nat) (hk : k < 5) : CtI l yX2_dayOf wsX2_dayOf rm_X2_dayOf D cI cZ [.ref hp, .int (nI k)] [(hp, o2 r ti np nq nd), (r 5, .inl (cI, 5, .inl (fun k_ => nI (P 4 k_))))] (fun r (_ : Unit) => r = nI (P 4 k)) (fun (_ : Unit) => [(hp, o2 r ti np nq nd), (r 5, .inl (cI, 5, .inl (fun k_ => nI (P 4 k_))))]) 0 0 := by
  refine g_startI (ret := (some .int)) (own := RX2) (lv0 := [(0, .ref hp), (1, .int (nI k))]) (by decide) rfl rfl (Nat.le_of_ble_eq_true rfl) rfl ?_
  intro p e s m args below meth cd A Q hin hr hQ hC
  have hcw2 : ∀ w ∈ wsX20, w ∈ wsX2_dayOf := fun _ h => List.mem_cons_of_mem _ (List.mem_append_right _ h)
  have w1 := hC.1.2.2.2.2 (.fieldLink "PluckBroker$Plan" 27 "PluckBroker$Plan" "onDays" "[I") (List.mem_of_getElem? (i := 1) rfl)
  have w2 := hC.1.2.2.2.2 (.static ⟨"PluckBroker", "cell", "([II)I"⟩) (List.mem_of_getElem? (i := 2) rfl)
  have w3 := hC.1.2.2.2.2 (.initialized "PluckBroker") (List.mem_of_getElem? (i := 3) rfl)
  refine g_aload_n hC 0 dX2_dayOf_0 rfl rfl ?_
  refine g_get (C := RX2) (T := TX2) (N := 11) (ci := 2) (v := .ref (r 5)) hC hcw2 0 rfl rfl 5 (by decide) w1 (fun _ h => h) rfl dX2_dayOf_1 ?_
  refine g_iload_n hC 1 dX2_dayOf_4 rfl rfl ?_
  refine g_callSNip (As := [.ref (r 5), .int (nI k)]) (rest := []) hC (nI (P 4 k)) (c_X5_cell l D cI cZ (r 5) 5 (fun k_ => nI (P 4 k_)) k (by first | assumption | omega) (by first | assumption | omega)) ⟨va_cnB 2 hC.1.2.2.2.2 gX2_dayOf_X5_cell_n50 rfl rfl rfl (hC.2.2.1.m 8 rfl) w3 dS_X5_cell ⟨Nat.le_of_ble_eq_true rfl, Nat.le_of_ble_eq_true rfl⟩, w2, trivial⟩ rfl rfl (Nat.le_of_ble_eq_true rfl) dX2_dayOf_5 ⟨Nat.le_of_ble_eq_true rfl, Nat.le_of_ble_eq_true rfl⟩ [1] rfl rfl ?_
  subst hQ
  refine g_iret (v := nI (P 4 k)) hC () hr ?_ rfl dX2_dayOf_8
  rfl

abbrev rm_X2_rewardOf : Room := { frames := 1, cells := 0, slots := 0, locals := 21 }
set_option maxRecDepth 100000 in
set_option maxHeartbeats 4000000 in
theorem c_X2_rewardOf (l : Launch) (D : va_G) (cI cZ : ClassId) (hp : Nat) (r : Nat → Nat) (ti : Int32) (np : Nat) (nq : Nat) (nd : Nat) (P : Nat → Nat → Nat) (k : Nat) (hk : k < 5) : CtI l yX2_rewardOf wsX2_rewardOf rm_X2_rewardOf D cI cZ [.ref hp, .int (nI k)] [(hp, o2 r ti np nq nd), (r 6, .inl (cI, 5, .inl (fun k_ => nI (P 5 k_))))] (fun r (_ : Unit) => r = nI (P 5 k)) (fun (_ : Unit) => [(hp, o2 r ti np nq nd), (r 6, .inl (cI, 5, .inl (fun k_ => nI (P 5 k_))))]) 0 0 := by
  refine g_startI (ret := (some .int)) (own := RX2) (lv0 := [(0, .ref hp), (1, .int (nI k))]) (by decide) rfl rfl (Nat.le_of_ble_eq_true rfl) rfl ?_
  intro p e s m args below meth cd A Q hin hr hQ hC
  have hcw2 : ∀ w ∈ wsX20, w ∈ wsX2_rewardOf := fun _ h => List.mem_cons_of_mem _ (List.mem_append_right _ h)
  have w1 := hC.1.2.2.2.2 (.fieldLink "PluckBroker$Plan" 30 "PluckBroker$Plan" "rewards" "[I") (List.mem_of_getElem? (i := 1) rfl)
  have w2 := hC.1.2.2.2.2 (.static ⟨"PluckBroker", "cell", "([II)I"⟩) (List.mem_of_getElem? (i := 2) rfl)
  have w3 := hC.1.2.2.2.2 (.initialized "PluckBroker") (List.mem_of_getElem? (i := 3) rfl)
  refine g_aload_n hC 0 dX2_rewardOf_0 rfl rfl ?_
  refine g_get (C := RX2) (T := TX2) (N := 11) (ci := 2) (v := .ref (r 6)) hC hcw2 0 rfl rfl 6 (by decide) w1 (fun _ h => h) rfl dX2_rewardOf_1 ?_
  refine g_iload_n hC 1 dX2_rewardOf_4 rfl rfl ?_
  refine g_callSNip (As := [.ref (r 6), .int (nI k)]) (rest := []) hC (nI (P 5 k)) (c_X5_cell l D cI cZ (r 6) 5 (fun k_ => nI (P 5 k_)) k (by first | assumption | omega) (by first | assumption | omega)) ⟨va_cnB 2 hC.1.2.2.2.2 gX2_rewardOf_X5_cell_n50 rfl rfl rfl (hC.2.2.1.m 8 rfl) w3 dS_X5_cell ⟨Nat.le_of_ble_eq_true rfl, Nat.le_of_ble_eq_true rfl⟩, w2, trivial⟩ rfl rfl (Nat.le_of_ble_eq_true rfl) dX2_rewardOf_5 ⟨Nat.le_of_ble_eq_true rfl, Nat.le_of_ble_eq_true rfl⟩ [1] rfl rfl ?_
  subst hQ
  refine g_iret (v := nI (P 5 k)) hC () hr ?_ rfl dX2_rewardOf_8
  rfl

abbrev rm_X2_firstPurseOf : Room := { frames := 1, cells := 0, slots := 0, locals := 21 }
set_option maxRecDepth 100000 in
set_option maxHeartbeats 4000000 in
theorem c_X2_firstPurseOf (l : Launch) (D : va_G) (cI cZ : ClassId) (hp : Nat) (r : Nat → Nat) (ti : Int32) (np : Nat) (nq : Nat) (nd : Nat) (pu : Nat → Int32) (k : Nat) (hk : k < 3) : CtI l yX2_firstPurseOf wsX2_firstPurseOf rm_X2_firstPurseOf D cI cZ [.ref hp, .int (nI k)] [(hp, o2 r ti np nq nd), (r 0, .inl (cI, 3, .inl pu))] (fun r (_ : Unit) => r = pu k) (fun (_ : Unit) => [(hp, o2 r ti np nq nd), (r 0, .inl (cI, 3, .inl pu))]) 0 0 := by
  refine g_startI (ret := (some .int)) (own := RX2) (lv0 := [(0, .ref hp), (1, .int (nI k))]) (by decide) rfl rfl (Nat.le_of_ble_eq_true rfl) rfl ?_
  intro p e s m args below meth cd A Q hin hr hQ hC
  have hcw2 : ∀ w ∈ wsX20, w ∈ wsX2_firstPurseOf := fun _ h => List.mem_cons_of_mem _ (List.mem_append_right _ h)
  have w1 := hC.1.2.2.2.2 (.fieldLink "PluckBroker$Plan" 9 "PluckBroker$Plan" "purses" "[I") (List.mem_of_getElem? (i := 1) rfl)
  have w2 := hC.1.2.2.2.2 (.static ⟨"PluckBroker", "cell", "([II)I"⟩) (List.mem_of_getElem? (i := 2) rfl)
  have w3 := hC.1.2.2.2.2 (.initialized "PluckBroker") (List.mem_of_getElem? (i := 3) rfl)
  refine g_aload_n hC 0 dX2_firstPurseOf_0 rfl rfl ?_
  refine g_get (C := RX2) (T := TX2) (N := 11) (ci := 2) (v := .ref (r 0)) hC hcw2 0 rfl rfl 0 (by decide) w1 (fun _ h => h) rfl dX2_firstPurseOf_1 ?_
  refine g_iload_n hC 1 dX2_firstPurseOf_4 rfl rfl ?_
  refine g_callSNip (As := [.ref (r 0), .int (nI k)]) (rest := []) hC (pu k) (c_X5_cell l D cI cZ (r 0) 3 pu k (by first | assumption | omega) (by first | assumption | omega)) ⟨va_cnB 2 hC.1.2.2.2.2 gX2_firstPurseOf_X5_cell_n50 rfl rfl rfl (hC.2.2.1.m 8 rfl) w3 dS_X5_cell ⟨Nat.le_of_ble_eq_true rfl, Nat.le_of_ble_eq_true rfl⟩, w2, trivial⟩ rfl rfl (Nat.le_of_ble_eq_true rfl) dX2_firstPurseOf_5 ⟨Nat.le_of_ble_eq_true rfl, Nat.le_of_ble_eq_true rfl⟩ [1] rfl rfl ?_
  subst hQ
  refine g_iret (v := pu k) hC () hr ?_ rfl dX2_firstPurseOf_8
  rfl

abbrev rm_X2_hasPerson : Room := { frames := 0, cells := 0, slots := 0, locals := 0 }
set_option maxRecDepth 100000 in
set_option maxHeartbeats 4000000 in
theorem c_X2_hasPerson (l : Launch) (D : va_G) (cI cZ : ClassId) (hp : Nat) (r : Nat → Nat) (ti : Int32) (np : Nat) (nq : Nat) (nd : Nat) (a : Int32) (hb : np ≤ 5) : CtI l yX2_hasPerson wsX2_hasPerson rm_X2_hasPerson D cI cZ [.ref hp, .int a] [(hp, o2 r ti np nq nd)] (fun r (_ : Unit) => r = bI (inR a np)) (fun (_ : Unit) => [(hp, o2 r ti np nq nd)]) 0 0 := by
  refine g_startI (ret := (some .boolean)) (own := RX2) (lv0 := [(0, .ref hp), (1, .int a)]) (by decide) rfl rfl (Nat.le_of_ble_eq_true rfl) rfl ?_
  intro p e s m args below meth cd A Q hin hr hQ hC
  have hcw2 : ∀ w ∈ wsX20, w ∈ wsX2_hasPerson := fun _ h => List.mem_cons_of_mem _ (List.mem_append_right _ h)
  have w1 := hC.1.2.2.2.2 (.fieldLink "PluckBroker$Plan" 37 "PluckBroker$Plan" "persons" "I") (List.mem_of_getElem? (i := 1) rfl)
  refine g_iload_n hC 1 dX2_hasPerson_0 rfl rfl ?_
  refine g_if_lt hC 16 dX2_hasPerson_1 (by decide) (fun h1t => ?_) (fun h1f => ?_)
  · refine g_iconst (v := nI 0) hC dX2_hasPerson_16 rfl ?_
    subst hQ
    refine g_zret (v := nI 0) hC () hr (by decide +kernel) ?_ rfl dX2_hasPerson_17
    exact (bI_f (fun q => absurd q.1 (Int32.not_le.mpr h1t))).symm
  refine g_iload_n hC 1 dX2_hasPerson_4 rfl rfl ?_
  refine g_aload_n hC 0 dX2_hasPerson_5 rfl rfl ?_
  refine g_get (C := RX2) (T := TX2) (N := 11) (ci := 2) (v := .int (nI np)) hC hcw2 0 rfl rfl 8 (by decide) w1 (fun _ h => h) rfl dX2_hasPerson_6 ?_
  refine g_icmp_ge hC 16 dX2_hasPerson_9 (by decide) (fun h9t => ?_) (fun h9f => ?_)
  · refine g_iconst (v := nI 0) hC dX2_hasPerson_16 rfl ?_
    subst hQ
    refine g_zret (v := nI 0) hC () hr (by decide +kernel) ?_ rfl dX2_hasPerson_17
    exact (bI_f (fun q => absurd q.2 (Int32.not_lt.mpr h9t))).symm
  refine g_iconst (v := nI 1) hC dX2_hasPerson_12 rfl ?_
  refine g_goto hC 17 dX2_hasPerson_13 (by decide) ?_
  subst hQ
  refine g_zret (v := nI 1) hC () hr (by decide +kernel) ?_ rfl dX2_hasPerson_17
  exact (bI_t ⟨Int32.not_lt.mp h1f, Int32.not_le.mp h9f⟩).symm

abbrev rm_X2_hasQuality : Room := { frames := 0, cells := 0, slots := 0, locals := 0 }
set_option maxRecDepth 100000 in
set_option maxHeartbeats 4000000 in
theorem c_X2_hasQuality (l : Launch) (D : va_G) (cI cZ : ClassId) (hp : Nat) (r : Nat → Nat) (ti : Int32) (np : Nat) (nq : Nat) (nd : Nat) (a : Int32) (hb : nq ≤ 5) : CtI l yX2_hasQuality wsX2_hasQuality rm_X2_hasQuality D cI cZ [.ref hp, .int a] [(hp, o2 r ti np nq nd)] (fun r (_ : Unit) => r = bI (inR a nq)) (fun (_ : Unit) => [(hp, o2 r ti np nq nd)]) 0 0 := by
  refine g_startI (ret := (some .boolean)) (own := RX2) (lv0 := [(0, .ref hp), (1, .int a)]) (by decide) rfl rfl (Nat.le_of_ble_eq_true rfl) rfl ?_
  intro p e s m args below meth cd A Q hin hr hQ hC
  have hcw2 : ∀ w ∈ wsX20, w ∈ wsX2_hasQuality := fun _ h => List.mem_cons_of_mem _ (List.mem_append_right _ h)
  have w1 := hC.1.2.2.2.2 (.fieldLink "PluckBroker$Plan" 40 "PluckBroker$Plan" "qualities" "I") (List.mem_of_getElem? (i := 1) rfl)
  refine g_iload_n hC 1 dX2_hasQuality_0 rfl rfl ?_
  refine g_if_lt hC 16 dX2_hasQuality_1 (by decide) (fun h1t => ?_) (fun h1f => ?_)
  · refine g_iconst (v := nI 0) hC dX2_hasQuality_16 rfl ?_
    subst hQ
    refine g_zret (v := nI 0) hC () hr (by decide +kernel) ?_ rfl dX2_hasQuality_17
    exact (bI_f (fun q => absurd q.1 (Int32.not_le.mpr h1t))).symm
  refine g_iload_n hC 1 dX2_hasQuality_4 rfl rfl ?_
  refine g_aload_n hC 0 dX2_hasQuality_5 rfl rfl ?_
  refine g_get (C := RX2) (T := TX2) (N := 11) (ci := 2) (v := .int (nI nq)) hC hcw2 0 rfl rfl 9 (by decide) w1 (fun _ h => h) rfl dX2_hasQuality_6 ?_
  refine g_icmp_ge hC 16 dX2_hasQuality_9 (by decide) (fun h9t => ?_) (fun h9f => ?_)
  · refine g_iconst (v := nI 0) hC dX2_hasQuality_16 rfl ?_
    subst hQ
    refine g_zret (v := nI 0) hC () hr (by decide +kernel) ?_ rfl dX2_hasQuality_17
    exact (bI_f (fun q => absurd q.2 (Int32.not_lt.mpr h9t))).symm
  refine g_iconst (v := nI 1) hC dX2_hasQuality_12 rfl ?_
  refine g_goto hC 17 dX2_hasQuality_13 (by decide) ?_
  subst hQ
  refine g_zret (v := nI 1) hC () hr (by decide +kernel) ?_ rfl dX2_hasQuality_17
  exact (bI_t ⟨Int32.not_lt.mp h1f, Int32.not_le.mp h9f⟩).symm

abbrev rm_X2_hasDeed : Room := { frames := 0, cells := 0, slots := 0, locals := 0 }
set_option maxRecDepth 100000 in
set_option maxHeartbeats 4000000 in
theorem c_X2_hasDeed (l : Launch) (D : va_G) (cI cZ : ClassId) (hp : Nat) (r : Nat → Nat) (ti : Int32) (np : Nat) (nq : Nat) (nd : Nat) (a : Int32) (hb : nd ≤ 5) : CtI l yX2_hasDeed wsX2_hasDeed rm_X2_hasDeed D cI cZ [.ref hp, .int a] [(hp, o2 r ti np nq nd)] (fun r (_ : Unit) => r = bI (inR a nd)) (fun (_ : Unit) => [(hp, o2 r ti np nq nd)]) 0 0 := by
  refine g_startI (ret := (some .boolean)) (own := RX2) (lv0 := [(0, .ref hp), (1, .int a)]) (by decide) rfl rfl (Nat.le_of_ble_eq_true rfl) rfl ?_
  intro p e s m args below meth cd A Q hin hr hQ hC
  have hcw2 : ∀ w ∈ wsX20, w ∈ wsX2_hasDeed := fun _ h => List.mem_cons_of_mem _ (List.mem_append_right _ h)
  have w1 := hC.1.2.2.2.2 (.fieldLink "PluckBroker$Plan" 43 "PluckBroker$Plan" "deeds" "I") (List.mem_of_getElem? (i := 1) rfl)
  refine g_iload_n hC 1 dX2_hasDeed_0 rfl rfl ?_
  refine g_if_lt hC 16 dX2_hasDeed_1 (by decide) (fun h1t => ?_) (fun h1f => ?_)
  · refine g_iconst (v := nI 0) hC dX2_hasDeed_16 rfl ?_
    subst hQ
    refine g_zret (v := nI 0) hC () hr (by decide +kernel) ?_ rfl dX2_hasDeed_17
    exact (bI_f (fun q => absurd q.1 (Int32.not_le.mpr h1t))).symm
  refine g_iload_n hC 1 dX2_hasDeed_4 rfl rfl ?_
  refine g_aload_n hC 0 dX2_hasDeed_5 rfl rfl ?_
  refine g_get (C := RX2) (T := TX2) (N := 11) (ci := 2) (v := .int (nI nd)) hC hcw2 0 rfl rfl 10 (by decide) w1 (fun _ h => h) rfl dX2_hasDeed_6 ?_
  refine g_icmp_ge hC 16 dX2_hasDeed_9 (by decide) (fun h9t => ?_) (fun h9f => ?_)
  · refine g_iconst (v := nI 0) hC dX2_hasDeed_16 rfl ?_
    subst hQ
    refine g_zret (v := nI 0) hC () hr (by decide +kernel) ?_ rfl dX2_hasDeed_17
    exact (bI_f (fun q => absurd q.2 (Int32.not_lt.mpr h9t))).symm
  refine g_iconst (v := nI 1) hC dX2_hasDeed_12 rfl ?_
  refine g_goto hC 17 dX2_hasDeed_13 (by decide) ?_
  subst hQ
  refine g_zret (v := nI 1) hC () hr (by decide +kernel) ?_ rfl dX2_hasDeed_17
  exact (bI_t ⟨Int32.not_lt.mp h1f, Int32.not_le.mp h9f⟩).symm

abbrev rm_X2_qualitiesOf : Room := { frames := 2, cells := 0, slots := 0, locals := 42 }
set_option maxRecDepth 100000 in
set_option maxHeartbeats 4000000 in
theorem c_X2_qualitiesOf (l : Launch) (D : va_G) (cI cZ : ClassId) (hp : Nat) (r : Nat → Nat) (ti : Int32) (np : Nat) (nq : Nat) (nd : Nat) (P : Nat → Nat → Nat) (a : Int32) (hb : nq ≤ 5) : CtI l yX2_qualitiesOf wsX2_qualitiesOf rm_X2_qualitiesOf D cI cZ [.ref hp, .int a] [(hp, o2 r ti np nq nd), (r 1, .inl (cI, 5, .inl (fun k_ => nI (P 0 k_))))] (fun r (_ : Unit) => r = nI (ownB nq P a)) (fun (_ : Unit) => [(hp, o2 r ti np nq nd), (r 1, .inl (cI, 5, .inl (fun k_ => nI (P 0 k_))))]) 0 0 := by
  refine g_startI (ret := (some .int)) (own := RX2) (lv0 := [(0, .ref hp), (1, .int a)]) (by decide) rfl rfl (Nat.le_of_ble_eq_true rfl) rfl ?_
  intro p e s m args below meth cd A Q hin hr hQ hC
  have hcw2 : ∀ w ∈ wsX20, w ∈ wsX2_qualitiesOf := fun _ h => List.mem_cons_of_mem _ (List.mem_append_right _ h)
  have w1 := hC.1.2.2.2.2 (.fieldLink "PluckBroker$Plan" 40 "PluckBroker$Plan" "qualities" "I") (List.mem_of_getElem? (i := 1) rfl)
  refine g_iconst (v := nI 0) hC dX2_qualitiesOf_0 rfl ?_
  refine g_istore_n (lv' := [(0, .ref hp), (1, .int a), (2, .int (nI 0))]) hC [1, 2, 0] dX2_qualitiesOf_1 rfl (by decide) rfl ?_
  refine g_iconst (v := nI 0) hC dX2_qualitiesOf_2 rfl ?_
  refine g_istore_n (lv' := [(0, .ref hp), (1, .int a), (2, .int (nI 0)), (3, .int (nI 0))]) hC [1, 2, 3, 0] dX2_qualitiesOf_3 rfl (by decide) rfl ?_
  have L4 : ∀ (n : Nat) (i : Nat) (acc : Nat), (i ≤ nq) → (acc = bts i (fun q => decide (nI (P 0 q) = a))) → nq - i < n → G p l e rm_X2_qualitiesOf s m args below meth cd D A 0 0 Q 4 [(hp, o2 r ti np nq nd), (r 1, .inl (cI, 5, .inl (fun k_ => nI (P 0 k_))))] 4 [(0, .ref hp), (1, .int a), (2, .int (nI acc)), (3, .int (nI i))] [] := by
    intro n
    induction n with
    | zero => intro i acc hi hacc hn; exact absurd hn (Nat.not_lt_zero _)
    | succ n ih4 =>
      intro i acc hi hacc hn
      refine g_iload_n hC 3 dX2_qualitiesOf_4 rfl rfl ?_
      refine g_aload_n hC 0 dX2_qualitiesOf_5 rfl rfl ?_
      refine g_get (C := RX2) (T := TX2) (N := 11) (ci := 2) (v := .int (nI nq)) hC hcw2 0 rfl rfl 9 (by decide) w1 (fun _ h => h) rfl dX2_qualitiesOf_6 ?_
      refine g_icmp_ge_n (a := i) (b := nq) hC (by omega) (by omega) 37 dX2_qualitiesOf_9 (by decide) (fun h9t => ?_) (fun h9f => ?_)
      · refine g_iload_n hC 2 dX2_qualitiesOf_37 rfl rfl ?_
        subst hQ
        refine g_iret (v := nI acc) hC () hr ?_ rfl dX2_qualitiesOf_38
        have ei : i = nq := by omega
        rw [ei] at hacc; rw [hacc]; rfl
      refine g_iload_n hC 2 dX2_qualitiesOf_12 rfl rfl ?_
      refine g_aload_n hC 0 dX2_qualitiesOf_13 rfl rfl ?_
      refine g_iload_n hC 3 dX2_qualitiesOf_14 rfl rfl ?_
      refine g_callVip (As := [.int (nI i)]) (rest := [.int (nI acc)]) hC (nI (P 0 i)) (c_X2_ownerOf l D cI cZ hp r ti np nq nd P i (by first | assumption | omega)) (cwV 1 hC.1.2.2.2.2 gX2_qualitiesOf_X2_ownerOf rfl rfl rfl dV_X2_ownerOf ⟨Nat.le_of_ble_eq_true rfl, Nat.le_of_ble_eq_true rfl⟩) rfl rfl rfl rfl (Nat.le_of_ble_eq_true rfl) dX2_qualitiesOf_15 ⟨Nat.le_of_ble_eq_true rfl, Nat.le_of_ble_eq_true rfl⟩ [0, 1] rfl rfl ?_
      refine g_iload_n hC 1 dX2_qualitiesOf_18 rfl rfl ?_
      refine g_icmp_ne hC 28 dX2_qualitiesOf_19 (by decide) (fun h19t => ?_) (fun h19f => ?_)
      · refine g_iconst (v := nI 0) hC dX2_qualitiesOf_28 rfl ?_
        refine g_ior_n (a := acc) (b := 0) hC dX2_qualitiesOf_29 ?_
        refine g_istore_n (lv' := [(0, .ref hp), (1, .int a), (2, .int (nI (acc ||| 0))), (3, .int (nI i))]) hC [1, 2, 0, 3] dX2_qualitiesOf_30 rfl (by decide) rfl ?_
        refine g_iinc (v := nI (i + 1)) (lv' := [(0, .ref hp), (1, .int a), (2, .int (nI (acc ||| 0))), (3, .int (nI (i + 1)))]) hC 3 [1, 2, 3, 0] dX2_qualitiesOf_31 rfl (nI_add _ 1) (by decide) rfl ?_
        refine g_goto hC 4 dX2_qualitiesOf_34 (by decide) ?_
        refine ih4 (i + 1) (acc ||| 0) ?_ ?_ ?_
        · omega
        · rw [hacc]; exact bts_f (decide_eq_false h19t)
        · omega
      refine g_iconst (v := nI 1) hC dX2_qualitiesOf_22 rfl ?_
      refine g_iload_n hC 3 dX2_qualitiesOf_23 rfl rfl ?_
      refine g_shl1_n (b := i) hC (by omega) dX2_qualitiesOf_24 ?_
      refine g_goto hC 29 dX2_qualitiesOf_25 (by decide) ?_
      refine g_ior_n (a := acc) (b := (2 ^ i)) hC dX2_qualitiesOf_29 ?_
      refine g_istore_n (lv' := [(0, .ref hp), (1, .int a), (2, .int (nI (acc ||| (2 ^ i)))), (3, .int (nI i))]) hC [1, 2, 0, 3] dX2_qualitiesOf_30 rfl (by decide) rfl ?_
      refine g_iinc (v := nI (i + 1)) (lv' := [(0, .ref hp), (1, .int a), (2, .int (nI (acc ||| (2 ^ i)))), (3, .int (nI (i + 1)))]) hC 3 [1, 2, 3, 0] dX2_qualitiesOf_31 rfl (nI_add _ 1) (by decide) rfl ?_
      refine g_goto hC 4 dX2_qualitiesOf_34 (by decide) ?_
      refine ih4 (i + 1) (acc ||| (2 ^ i)) ?_ ?_ ?_
      · omega
      · rw [hacc]; exact bts_t (decide_eq_true h19f)
      · omega
  refine L4 _ 0 0 ?_ ?_ (Nat.lt_succ_self _)
  · omega
  · rfl

abbrev rm_X2_deedsOf : Room := { frames := 2, cells := 0, slots := 0, locals := 42 }
set_option maxRecDepth 100000 in
set_option maxHeartbeats 4000000 in
theorem c_X2_deedsOf (l : Launch) (D : va_G) (cI cZ : ClassId) (hp : Nat) (r : Nat → Nat) (ti : Int32) (np : Nat) (nq : Nat) (nd : Nat) (P : Nat → Nat → Nat) (a : Int32) (hW : WFP np nq nd P) : CtI l yX2_deedsOf wsX2_deedsOf rm_X2_deedsOf D cI cZ [.ref hp, .int a] [(hp, o2 r ti np nq nd), (r 1, .inl (cI, 5, .inl (fun k_ => nI (P 0 k_)))), (r 4, .inl (cI, 5, .inl (fun k_ => nI (P 3 k_))))] (fun r (_ : Unit) => r = nI (deedsB nd P a)) (fun (_ : Unit) => [(hp, o2 r ti np nq nd), (r 1, .inl (cI, 5, .inl (fun k_ => nI (P 0 k_)))), (r 4, .inl (cI, 5, .inl (fun k_ => nI (P 3 k_))))]) 0 0 := by
  refine g_startI (ret := (some .int)) (own := RX2) (lv0 := [(0, .ref hp), (1, .int a)]) (by decide) rfl rfl (Nat.le_of_ble_eq_true rfl) rfl ?_
  intro p e s m args below meth cd A Q hin hr hQ hC
  have hcw2 : ∀ w ∈ wsX20, w ∈ wsX2_deedsOf := fun _ h => List.mem_cons_of_mem _ (List.mem_append_right _ h)
  have w1 := hC.1.2.2.2.2 (.fieldLink "PluckBroker$Plan" 43 "PluckBroker$Plan" "deeds" "I") (List.mem_of_getElem? (i := 1) rfl)
  have hb : nd ≤ 5 := hW.1.2.2
  have hb2 : nq ≤ 5 := hW.1.2.1
  have hw3 := fun d (h : d < nd) => (hW.2.2 d h).1
  refine g_iconst (v := nI 0) hC dX2_deedsOf_0 rfl ?_
  refine g_istore_n (lv' := [(0, .ref hp), (1, .int a), (2, .int (nI 0))]) hC [1, 2, 0] dX2_deedsOf_1 rfl (by decide) rfl ?_
  refine g_iconst (v := nI 0) hC dX2_deedsOf_2 rfl ?_
  refine g_istore_n (lv' := [(0, .ref hp), (1, .int a), (2, .int (nI 0)), (3, .int (nI 0))]) hC [1, 2, 3, 0] dX2_deedsOf_3 rfl (by decide) rfl ?_
  have L4 : ∀ (n : Nat) (i : Nat) (acc : Nat), (i ≤ nd) → (acc = bts i (fun d => decide (nI (P 0 (P 3 d)) = a))) → nd - i < n → G p l e rm_X2_deedsOf s m args below meth cd D A 0 0 Q 4 [(hp, o2 r ti np nq nd), (r 1, .inl (cI, 5, .inl (fun k_ => nI (P 0 k_)))), (r 4, .inl (cI, 5, .inl (fun k_ => nI (P 3 k_))))] 4 [(0, .ref hp), (1, .int a), (2, .int (nI acc)), (3, .int (nI i))] [] := by
    intro n
    induction n with
    | zero => intro i acc hi hacc hn; exact absurd hn (Nat.not_lt_zero _)
    | succ n ih4 =>
      intro i acc hi hacc hn
      refine g_iload_n hC 3 dX2_deedsOf_4 rfl rfl ?_
      refine g_aload_n hC 0 dX2_deedsOf_5 rfl rfl ?_
      refine g_get (C := RX2) (T := TX2) (N := 11) (ci := 2) (v := .int (nI nd)) hC hcw2 0 rfl rfl 10 (by decide) w1 (fun _ h => h) rfl dX2_deedsOf_6 ?_
      refine g_icmp_ge_n (a := i) (b := nd) hC (by omega) (by omega) 41 dX2_deedsOf_9 (by decide) (fun h9t => ?_) (fun h9f => ?_)
      · refine g_iload_n hC 2 dX2_deedsOf_41 rfl rfl ?_
        subst hQ
        refine g_iret (v := nI acc) hC () hr ?_ rfl dX2_deedsOf_42
        have ei : i = nd := by omega
        rw [ei] at hacc; rw [hacc]; rfl
      have hw3i := hw3 i (by omega)
      refine g_iload_n hC 2 dX2_deedsOf_12 rfl rfl ?_
      refine g_aload_n hC 0 dX2_deedsOf_13 rfl rfl ?_
      refine g_aload_n hC 0 dX2_deedsOf_14 rfl rfl ?_
      refine g_iload_n hC 3 dX2_deedsOf_15 rfl rfl ?_
      refine g_callVip (As := [.int (nI i)]) (rest := [.ref hp, .int (nI acc)]) hC (nI (P 3 i)) (c_X2_wantedBy l D cI cZ hp r ti np nq nd P i (by first | assumption | omega)) (cwV 1 hC.1.2.2.2.2 gX2_deedsOf_X2_wantedBy rfl rfl rfl dV_X2_wantedBy ⟨Nat.le_of_ble_eq_true rfl, Nat.le_of_ble_eq_true rfl⟩) rfl rfl rfl rfl (Nat.le_of_ble_eq_true rfl) dX2_deedsOf_16 ⟨Nat.le_of_ble_eq_true rfl, Nat.le_of_ble_eq_true rfl⟩ [0, 2] rfl rfl ?_
      refine g_callVip (As := [.int (nI (P 3 i))]) (rest := [.int (nI acc)]) hC (nI (P 0 (P 3 i))) (c_X2_ownerOf l D cI cZ hp r ti np nq nd P (P 3 i) (by first | assumption | omega)) (cwV 1 hC.1.2.2.2.2 gX2_deedsOf_X2_ownerOf rfl rfl rfl dV_X2_ownerOf ⟨Nat.le_of_ble_eq_true rfl, Nat.le_of_ble_eq_true rfl⟩) rfl rfl rfl rfl (Nat.le_of_ble_eq_true rfl) dX2_deedsOf_19 ⟨Nat.le_of_ble_eq_true rfl, Nat.le_of_ble_eq_true rfl⟩ [0, 1] rfl rfl ?_
      refine g_iload_n hC 1 dX2_deedsOf_22 rfl rfl ?_
      refine g_icmp_ne hC 32 dX2_deedsOf_23 (by decide) (fun h23t => ?_) (fun h23f => ?_)
      · refine g_iconst (v := nI 0) hC dX2_deedsOf_32 rfl ?_
        refine g_ior_n (a := acc) (b := 0) hC dX2_deedsOf_33 ?_
        refine g_istore_n (lv' := [(0, .ref hp), (1, .int a), (2, .int (nI (acc ||| 0))), (3, .int (nI i))]) hC [1, 2, 0, 3] dX2_deedsOf_34 rfl (by decide) rfl ?_
        refine g_iinc (v := nI (i + 1)) (lv' := [(0, .ref hp), (1, .int a), (2, .int (nI (acc ||| 0))), (3, .int (nI (i + 1)))]) hC 3 [1, 2, 3, 0] dX2_deedsOf_35 rfl (nI_add _ 1) (by decide) rfl ?_
        refine g_goto hC 4 dX2_deedsOf_38 (by decide) ?_
        refine ih4 (i + 1) (acc ||| 0) ?_ ?_ ?_
        · omega
        · rw [hacc]; exact bts_f (decide_eq_false h23t)
        · omega
      refine g_iconst (v := nI 1) hC dX2_deedsOf_26 rfl ?_
      refine g_iload_n hC 3 dX2_deedsOf_27 rfl rfl ?_
      refine g_shl1_n (b := i) hC (by omega) dX2_deedsOf_28 ?_
      refine g_goto hC 33 dX2_deedsOf_29 (by decide) ?_
      refine g_ior_n (a := acc) (b := (2 ^ i)) hC dX2_deedsOf_33 ?_
      refine g_istore_n (lv' := [(0, .ref hp), (1, .int a), (2, .int (nI (acc ||| (2 ^ i)))), (3, .int (nI i))]) hC [1, 2, 0, 3] dX2_deedsOf_34 rfl (by decide) rfl ?_
      refine g_iinc (v := nI (i + 1)) (lv' := [(0, .ref hp), (1, .int a), (2, .int (nI (acc ||| (2 ^ i)))), (3, .int (nI (i + 1)))]) hC 3 [1, 2, 3, 0] dX2_deedsOf_35 rfl (nI_add _ 1) (by decide) rfl ?_
      refine g_goto hC 4 dX2_deedsOf_38 (by decide) ?_
      refine ih4 (i + 1) (acc ||| (2 ^ i)) ?_ ?_ ?_
      · omega
      · rw [hacc]; exact bts_t (decide_eq_true h23f)
      · omega
  refine L4 _ 0 0 ?_ ?_ (Nat.lt_succ_self _)
  · omega
  · rfl

abbrev rm_X3_inTill : Room := { frames := 1, cells := 0, slots := 0, locals := 21 }
set_option maxRecDepth 100000 in
set_option maxHeartbeats 4000000 in
theorem c_X3_inTill (l : Launch) (D : va_G) (cI cZ : ClassId) (hs : Nat) (hp : Nat) (hc : Nat) (c : Nat → Int32) : CtI l yX3_inTill wsX3_inTill rm_X3_inTill D cI cZ [.ref hs] [(hs, .inr (3, [.ref hp, .ref hc])), (hc, .inl (cI, 20, .inl c))] (fun r (_ : Unit) => r = c 0) (fun (_ : Unit) => [(hs, .inr (3, [.ref hp, .ref hc])), (hc, .inl (cI, 20, .inl c))]) 0 0 := by
  refine g_startI (ret := (some .int)) (own := RX3) (lv0 := [(0, .ref hs)]) (by decide) rfl rfl (Nat.le_of_ble_eq_true rfl) rfl ?_
  intro p e s m args below meth cd A Q hin hr hQ hC
  have hcw3 : ∀ w ∈ wsX30, w ∈ wsX3_inTill := fun _ h => List.mem_cons_of_mem _ (List.mem_append_right _ h)
  have w1 := hC.1.2.2.2.2 (.fieldLink "PluckBroker$State" 11 "PluckBroker$State" "cells" "[I") (List.mem_of_getElem? (i := 1) rfl)
  have w2 := hC.1.2.2.2.2 (.static ⟨"PluckBroker", "cell", "([II)I"⟩) (List.mem_of_getElem? (i := 2) rfl)
  have w3 := hC.1.2.2.2.2 (.initialized "PluckBroker") (List.mem_of_getElem? (i := 3) rfl)
  refine g_aload_n hC 0 dX3_inTill_0 rfl rfl ?_
  refine g_get (C := RX3) (T := TX3) (N := 2) (ci := 3) (v := .ref hc) hC hcw3 0 rfl rfl 1 (by decide) w1 (fun _ h => h) rfl dX3_inTill_1 ?_
  refine g_iconst (v := nI 0) hC dX3_inTill_4 rfl ?_
  refine g_callSNip (As := [.ref hc, .int (nI 0)]) (rest := []) hC (c 0) (c_X5_cell l D cI cZ hc 20 c 0 (by first | assumption | omega) (by first | assumption | omega)) ⟨va_cnB 2 hC.1.2.2.2.2 gX3_inTill_X5_cell_n40 rfl rfl rfl (hC.2.2.1.m 9 rfl) w3 dS_X5_cell ⟨Nat.le_of_ble_eq_true rfl, Nat.le_of_ble_eq_true rfl⟩, w2, trivial⟩ rfl rfl (Nat.le_of_ble_eq_true rfl) dX3_inTill_5 ⟨Nat.le_of_ble_eq_true rfl, Nat.le_of_ble_eq_true rfl⟩ [1] rfl rfl ?_
  subst hQ
  refine g_iret (v := c 0) hC () hr ?_ rfl dX3_inTill_8
  rfl

abbrev rm_X3_today : Room := { frames := 1, cells := 0, slots := 0, locals := 21 }
set_option maxRecDepth 100000 in
set_option maxHeartbeats 4000000 in
theorem c_X3_today (l : Launch) (D : va_G) (cI cZ : ClassId) (hs : Nat) (hp : Nat) (hc : Nat) (c : Nat → Int32) : CtI l yX3_today wsX3_today rm_X3_today D cI cZ [.ref hs] [(hs, .inr (3, [.ref hp, .ref hc])), (hc, .inl (cI, 20, .inl c))] (fun r (_ : Unit) => r = c 1) (fun (_ : Unit) => [(hs, .inr (3, [.ref hp, .ref hc])), (hc, .inl (cI, 20, .inl c))]) 0 0 := by
  refine g_startI (ret := (some .int)) (own := RX3) (lv0 := [(0, .ref hs)]) (by decide) rfl rfl (Nat.le_of_ble_eq_true rfl) rfl ?_
  intro p e s m args below meth cd A Q hin hr hQ hC
  have hcw3 : ∀ w ∈ wsX30, w ∈ wsX3_today := fun _ h => List.mem_cons_of_mem _ (List.mem_append_right _ h)
  have w1 := hC.1.2.2.2.2 (.fieldLink "PluckBroker$State" 11 "PluckBroker$State" "cells" "[I") (List.mem_of_getElem? (i := 1) rfl)
  have w2 := hC.1.2.2.2.2 (.static ⟨"PluckBroker", "cell", "([II)I"⟩) (List.mem_of_getElem? (i := 2) rfl)
  have w3 := hC.1.2.2.2.2 (.initialized "PluckBroker") (List.mem_of_getElem? (i := 3) rfl)
  refine g_aload_n hC 0 dX3_today_0 rfl rfl ?_
  refine g_get (C := RX3) (T := TX3) (N := 2) (ci := 3) (v := .ref hc) hC hcw3 0 rfl rfl 1 (by decide) w1 (fun _ h => h) rfl dX3_today_1 ?_
  refine g_iconst (v := nI 1) hC dX3_today_4 rfl ?_
  refine g_callSNip (As := [.ref hc, .int (nI 1)]) (rest := []) hC (c 1) (c_X5_cell l D cI cZ hc 20 c 1 (by first | assumption | omega) (by first | assumption | omega)) ⟨va_cnB 2 hC.1.2.2.2.2 gX3_today_X5_cell_n40 rfl rfl rfl (hC.2.2.1.m 9 rfl) w3 dS_X5_cell ⟨Nat.le_of_ble_eq_true rfl, Nat.le_of_ble_eq_true rfl⟩, w2, trivial⟩ rfl rfl (Nat.le_of_ble_eq_true rfl) dX3_today_5 ⟨Nat.le_of_ble_eq_true rfl, Nat.le_of_ble_eq_true rfl⟩ [1] rfl rfl ?_
  subst hQ
  refine g_iret (v := c 1) hC () hr ?_ rfl dX3_today_8
  rfl

abbrev rm_X3_purseOf : Room := { frames := 1, cells := 0, slots := 0, locals := 21 }
set_option maxRecDepth 100000 in
set_option maxHeartbeats 4000000 in
theorem c_X3_purseOf (l : Launch) (D : va_G) (cI cZ : ClassId) (hs : Nat) (hp : Nat) (hc : Nat) (c : Nat → Int32) (k : Nat) (hk : k < 3) : CtI l yX3_purseOf wsX3_purseOf rm_X3_purseOf D cI cZ [.ref hs, .int (nI k)] [(hs, .inr (3, [.ref hp, .ref hc])), (hc, .inl (cI, 20, .inl c))] (fun r (_ : Unit) => r = c (2 + k)) (fun (_ : Unit) => [(hs, .inr (3, [.ref hp, .ref hc])), (hc, .inl (cI, 20, .inl c))]) 0 0 := by
  refine g_startI (ret := (some .int)) (own := RX3) (lv0 := [(0, .ref hs), (1, .int (nI k))]) (by decide) rfl rfl (Nat.le_of_ble_eq_true rfl) rfl ?_
  intro p e s m args below meth cd A Q hin hr hQ hC
  have hcw3 : ∀ w ∈ wsX30, w ∈ wsX3_purseOf := fun _ h => List.mem_cons_of_mem _ (List.mem_append_right _ h)
  have w1 := hC.1.2.2.2.2 (.fieldLink "PluckBroker$State" 11 "PluckBroker$State" "cells" "[I") (List.mem_of_getElem? (i := 1) rfl)
  have w2 := hC.1.2.2.2.2 (.static ⟨"PluckBroker", "cell", "([II)I"⟩) (List.mem_of_getElem? (i := 2) rfl)
  have w3 := hC.1.2.2.2.2 (.initialized "PluckBroker") (List.mem_of_getElem? (i := 3) rfl)
  refine g_aload_n hC 0 dX3_purseOf_0 rfl rfl ?_
  refine g_get (C := RX3) (T := TX3) (N := 2) (ci := 3) (v := .ref hc) hC hcw3 0 rfl rfl 1 (by decide) w1 (fun _ h => h) rfl dX3_purseOf_1 ?_
  refine g_iconst (v := nI 2) hC dX3_purseOf_4 rfl ?_
  refine g_iload_n hC 1 dX3_purseOf_5 rfl rfl ?_
  refine g_iadd_n (a := 2) (b := k) hC dX3_purseOf_6 ?_
  refine g_callSNip (As := [.ref hc, .int (nI (2 + k))]) (rest := []) hC (c (2 + k)) (c_X5_cell l D cI cZ hc 20 c (2 + k) (by first | assumption | omega) (by first | assumption | omega)) ⟨va_cnB 2 hC.1.2.2.2.2 gX3_purseOf_X5_cell_n40 rfl rfl rfl (hC.2.2.1.m 9 rfl) w3 dS_X5_cell ⟨Nat.le_of_ble_eq_true rfl, Nat.le_of_ble_eq_true rfl⟩, w2, trivial⟩ rfl rfl (Nat.le_of_ble_eq_true rfl) dX3_purseOf_7 ⟨Nat.le_of_ble_eq_true rfl, Nat.le_of_ble_eq_true rfl⟩ [1] rfl rfl ?_
  subst hQ
  refine g_iret (v := c (2 + k)) hC () hr ?_ rfl dX3_purseOf_10
  rfl

abbrev rm_X3_standingOf : Room := { frames := 1, cells := 0, slots := 0, locals := 21 }
set_option maxRecDepth 100000 in
set_option maxHeartbeats 4000000 in
theorem c_X3_standingOf (l : Launch) (D : va_G) (cI cZ : ClassId) (hs : Nat) (hp : Nat) (hc : Nat) (c : Nat → Int32) (k : Nat) (hk : k < 5) : CtI l yX3_standingOf wsX3_standingOf rm_X3_standingOf D cI cZ [.ref hs, .int (nI k)] [(hs, .inr (3, [.ref hp, .ref hc])), (hc, .inl (cI, 20, .inl c))] (fun r (_ : Unit) => r = c (5 + k)) (fun (_ : Unit) => [(hs, .inr (3, [.ref hp, .ref hc])), (hc, .inl (cI, 20, .inl c))]) 0 0 := by
  refine g_startI (ret := (some .int)) (own := RX3) (lv0 := [(0, .ref hs), (1, .int (nI k))]) (by decide) rfl rfl (Nat.le_of_ble_eq_true rfl) rfl ?_
  intro p e s m args below meth cd A Q hin hr hQ hC
  have hcw3 : ∀ w ∈ wsX30, w ∈ wsX3_standingOf := fun _ h => List.mem_cons_of_mem _ (List.mem_append_right _ h)
  have w1 := hC.1.2.2.2.2 (.fieldLink "PluckBroker$State" 11 "PluckBroker$State" "cells" "[I") (List.mem_of_getElem? (i := 1) rfl)
  have w2 := hC.1.2.2.2.2 (.static ⟨"PluckBroker", "cell", "([II)I"⟩) (List.mem_of_getElem? (i := 2) rfl)
  have w3 := hC.1.2.2.2.2 (.initialized "PluckBroker") (List.mem_of_getElem? (i := 3) rfl)
  refine g_aload_n hC 0 dX3_standingOf_0 rfl rfl ?_
  refine g_get (C := RX3) (T := TX3) (N := 2) (ci := 3) (v := .ref hc) hC hcw3 0 rfl rfl 1 (by decide) w1 (fun _ h => h) rfl dX3_standingOf_1 ?_
  refine g_iconst (v := nI 5) hC dX3_standingOf_4 rfl ?_
  refine g_iload_n hC 1 dX3_standingOf_5 rfl rfl ?_
  refine g_iadd_n (a := 5) (b := k) hC dX3_standingOf_6 ?_
  refine g_callSNip (As := [.ref hc, .int (nI (5 + k))]) (rest := []) hC (c (5 + k)) (c_X5_cell l D cI cZ hc 20 c (5 + k) (by first | assumption | omega) (by first | assumption | omega)) ⟨va_cnB 2 hC.1.2.2.2.2 gX3_standingOf_X5_cell_n40 rfl rfl rfl (hC.2.2.1.m 9 rfl) w3 dS_X5_cell ⟨Nat.le_of_ble_eq_true rfl, Nat.le_of_ble_eq_true rfl⟩, w2, trivial⟩ rfl rfl (Nat.le_of_ble_eq_true rfl) dX3_standingOf_7 ⟨Nat.le_of_ble_eq_true rfl, Nat.le_of_ble_eq_true rfl⟩ [1] rfl rfl ?_
  subst hQ
  refine g_iret (v := c (5 + k)) hC () hr ?_ rfl dX3_standingOf_10
  rfl

abbrev rm_X3_pledgedOn : Room := { frames := 1, cells := 0, slots := 0, locals := 21 }
set_option maxRecDepth 100000 in
set_option maxHeartbeats 4000000 in
theorem c_X3_pledgedOn (l : Launch) (D : va_G) (cI cZ : ClassId) (hs : Nat) (hp : Nat) (hc : Nat) (c : Nat → Int32) (k : Nat) (hk : k < 5) : CtI l yX3_pledgedOn wsX3_pledgedOn rm_X3_pledgedOn D cI cZ [.ref hs, .int (nI k)] [(hs, .inr (3, [.ref hp, .ref hc])), (hc, .inl (cI, 20, .inl c))] (fun r (_ : Unit) => r = c (10 + k)) (fun (_ : Unit) => [(hs, .inr (3, [.ref hp, .ref hc])), (hc, .inl (cI, 20, .inl c))]) 0 0 := by
  refine g_startI (ret := (some .int)) (own := RX3) (lv0 := [(0, .ref hs), (1, .int (nI k))]) (by decide) rfl rfl (Nat.le_of_ble_eq_true rfl) rfl ?_
  intro p e s m args below meth cd A Q hin hr hQ hC
  have hcw3 : ∀ w ∈ wsX30, w ∈ wsX3_pledgedOn := fun _ h => List.mem_cons_of_mem _ (List.mem_append_right _ h)
  have w1 := hC.1.2.2.2.2 (.fieldLink "PluckBroker$State" 11 "PluckBroker$State" "cells" "[I") (List.mem_of_getElem? (i := 1) rfl)
  have w2 := hC.1.2.2.2.2 (.static ⟨"PluckBroker", "cell", "([II)I"⟩) (List.mem_of_getElem? (i := 2) rfl)
  have w3 := hC.1.2.2.2.2 (.initialized "PluckBroker") (List.mem_of_getElem? (i := 3) rfl)
  refine g_aload_n hC 0 dX3_pledgedOn_0 rfl rfl ?_
  refine g_get (C := RX3) (T := TX3) (N := 2) (ci := 3) (v := .ref hc) hC hcw3 0 rfl rfl 1 (by decide) w1 (fun _ h => h) rfl dX3_pledgedOn_1 ?_
  refine g_bipush (v := nI 10) hC dX3_pledgedOn_4 (by decide +kernel) ?_
  refine g_iload_n hC 1 dX3_pledgedOn_6 rfl rfl ?_
  refine g_iadd_n (a := 10) (b := k) hC dX3_pledgedOn_7 ?_
  refine g_callSNip (As := [.ref hc, .int (nI (10 + k))]) (rest := []) hC (c (10 + k)) (c_X5_cell l D cI cZ hc 20 c (10 + k) (by first | assumption | omega) (by first | assumption | omega)) ⟨va_cnB 2 hC.1.2.2.2.2 gX3_pledgedOn_X5_cell_n40 rfl rfl rfl (hC.2.2.1.m 9 rfl) w3 dS_X5_cell ⟨Nat.le_of_ble_eq_true rfl, Nat.le_of_ble_eq_true rfl⟩, w2, trivial⟩ rfl rfl (Nat.le_of_ble_eq_true rfl) dX3_pledgedOn_8 ⟨Nat.le_of_ble_eq_true rfl, Nat.le_of_ble_eq_true rfl⟩ [1] rfl rfl ?_
  subst hQ
  refine g_iret (v := c (10 + k)) hC () hr ?_ rfl dX3_pledgedOn_11
  rfl

abbrev rm_X3_outcomeOf : Room := { frames := 1, cells := 0, slots := 0, locals := 21 }
set_option maxRecDepth 100000 in
set_option maxHeartbeats 4000000 in
theorem c_X3_outcomeOf (l : Launch) (D : va_G) (cI cZ : ClassId) (hs : Nat) (hp : Nat) (hc : Nat) (c : Nat → Int32) (k : Nat) (hk : k < 5) : CtI l yX3_outcomeOf wsX3_outcomeOf rm_X3_outcomeOf D cI cZ [.ref hs, .int (nI k)] [(hs, .inr (3, [.ref hp, .ref hc])), (hc, .inl (cI, 20, .inl c))] (fun r (_ : Unit) => r = c (15 + k)) (fun (_ : Unit) => [(hs, .inr (3, [.ref hp, .ref hc])), (hc, .inl (cI, 20, .inl c))]) 0 0 := by
  refine g_startI (ret := (some .int)) (own := RX3) (lv0 := [(0, .ref hs), (1, .int (nI k))]) (by decide) rfl rfl (Nat.le_of_ble_eq_true rfl) rfl ?_
  intro p e s m args below meth cd A Q hin hr hQ hC
  have hcw3 : ∀ w ∈ wsX30, w ∈ wsX3_outcomeOf := fun _ h => List.mem_cons_of_mem _ (List.mem_append_right _ h)
  have w1 := hC.1.2.2.2.2 (.fieldLink "PluckBroker$State" 11 "PluckBroker$State" "cells" "[I") (List.mem_of_getElem? (i := 1) rfl)
  have w2 := hC.1.2.2.2.2 (.static ⟨"PluckBroker", "cell", "([II)I"⟩) (List.mem_of_getElem? (i := 2) rfl)
  have w3 := hC.1.2.2.2.2 (.initialized "PluckBroker") (List.mem_of_getElem? (i := 3) rfl)
  refine g_aload_n hC 0 dX3_outcomeOf_0 rfl rfl ?_
  refine g_get (C := RX3) (T := TX3) (N := 2) (ci := 3) (v := .ref hc) hC hcw3 0 rfl rfl 1 (by decide) w1 (fun _ h => h) rfl dX3_outcomeOf_1 ?_
  refine g_bipush (v := nI 15) hC dX3_outcomeOf_4 (by decide +kernel) ?_
  refine g_iload_n hC 1 dX3_outcomeOf_6 rfl rfl ?_
  refine g_iadd_n (a := 15) (b := k) hC dX3_outcomeOf_7 ?_
  refine g_callSNip (As := [.ref hc, .int (nI (15 + k))]) (rest := []) hC (c (15 + k)) (c_X5_cell l D cI cZ hc 20 c (15 + k) (by first | assumption | omega) (by first | assumption | omega)) ⟨va_cnB 2 hC.1.2.2.2.2 gX3_outcomeOf_X5_cell_n40 rfl rfl rfl (hC.2.2.1.m 9 rfl) w3 dS_X5_cell ⟨Nat.le_of_ble_eq_true rfl, Nat.le_of_ble_eq_true rfl⟩, w2, trivial⟩ rfl rfl (Nat.le_of_ble_eq_true rfl) dX3_outcomeOf_8 ⟨Nat.le_of_ble_eq_true rfl, Nat.le_of_ble_eq_true rfl⟩ [1] rfl rfl ?_
  subst hQ
  refine g_iret (v := c (15 + k)) hC () hr ?_ rfl dX3_outcomeOf_11
  rfl

abbrev rm_X5_dueFor : Room := { frames := 0, cells := 0, slots := 0, locals := 0 }
set_option maxRecDepth 100000 in
set_option maxHeartbeats 4000000 in
theorem c_X5_dueFor (l : Launch) (D : va_G) (cI cZ : ClassId) (k : Int32) (w : Int32) (d : Int32) (o : Int32) : CtI l yX5_dueFor wsX5_dueFor rm_X5_dueFor D cI cZ [.int k, .int w, .int d, .int o] [] (fun r (_ : Unit) => r = dueF k w d o) (fun (_ : Unit) => []) 0 0 := by
  refine g_startI (ret := (some .int)) (own := RX5) (lv0 := [(0, .int k), (1, .int w), (2, .int d), (3, .int o)]) (by decide) rfl rfl (Nat.le_of_ble_eq_true rfl) rfl ?_
  intro p e s m args below meth cd A Q hin hr hQ hC
  refine g_iload_n hC 0 dX5_dueFor_0 rfl rfl ?_
  by_cases k1_1 : k = nI 1
  · subst k1_1
    refine g_tableIn (off := 27) hC 28 dX5_dueFor_1 (by decide +kernel) (by decide +kernel) (by decide +kernel) (by decide) ?_
    refine g_iload_n hC 1 dX5_dueFor_28 rfl rfl ?_
    refine g_iconst (v := nI 2) hC dX5_dueFor_29 rfl ?_
    refine g_iload_n hC 2 dX5_dueFor_30 rfl rfl ?_
    refine g_imul hC dX5_dueFor_31 ?_
    refine g_iadd hC dX5_dueFor_32 ?_
    subst hQ
    refine g_iret (v := w + ((nI 2) * d)) hC () hr ?_ rfl dX5_dueFor_33
    rw [dueF, if_pos rfl]
  by_cases k1_2 : k = nI 2
  · subst k1_2
    refine g_tableIn (off := 33) hC 34 dX5_dueFor_1 (by decide +kernel) (by decide +kernel) (by decide +kernel) (by decide) ?_
    refine g_iload_n hC 3 dX5_dueFor_34 rfl rfl ?_
    refine g_bipush (v := nI 7) hC dX5_dueFor_35 (by decide +kernel) ?_
    refine g_irem (x := o) (y := nI 7) hC dX5_dueFor_37 (by decide) ?_
    refine g_bipush (v := nI 6) hC dX5_dueFor_38 (by decide +kernel) ?_
    refine g_icmp_ne hC 47 dX5_dueFor_40 (by decide) (fun h40t => ?_) (fun h40f => ?_)
    · refine g_iload_n hC 1 dX5_dueFor_47 rfl rfl ?_
      refine g_iload_n hC 2 dX5_dueFor_48 rfl rfl ?_
      refine g_iadd hC dX5_dueFor_49 ?_
      subst hQ
      refine g_iret (v := w + d) hC () hr ?_ rfl dX5_dueFor_50
      rw [dueF, if_neg (by decide), if_pos rfl]; first | rw [if_pos h40f] | rw [if_neg h40t]
    refine g_iload_n hC 1 dX5_dueFor_43 rfl rfl ?_
    refine g_goto hC 50 dX5_dueFor_44 (by decide) ?_
    subst hQ
    refine g_iret (v := w) hC () hr ?_ rfl dX5_dueFor_50
    rw [dueF, if_neg (by decide), if_pos rfl]; first | rw [if_pos h40f] | rw [if_neg h40t]
  by_cases k1_3 : k = nI 3
  · subst k1_3
    refine g_tableIn (off := 50) hC 51 dX5_dueFor_1 (by decide +kernel) (by decide +kernel) (by decide +kernel) (by decide) ?_
    refine g_iload_n hC 1 dX5_dueFor_51 rfl rfl ?_
    subst hQ
    refine g_iret (v := w) hC () hr ?_ rfl dX5_dueFor_52
    rw [dueF, if_neg (by decide), if_neg (by decide), if_pos rfl]
  have z1_1 : k.toInt ≠ 1 := fun q => k1_1 (Int32.toInt_inj.mp (q.trans (by decide +kernel)))
  have z1_2 : k.toInt ≠ 2 := fun q => k1_2 (Int32.toInt_inj.mp (q.trans (by decide +kernel)))
  have z1_3 : k.toInt ≠ 3 := fun q => k1_3 (Int32.toInt_inj.mp (q.trans (by decide +kernel)))
  refine g_tableOut hC 53 dX5_dueFor_1 (by omega) (by decide) ?_
  refine g_iload_n hC 1 dX5_dueFor_53 rfl rfl ?_
  refine g_iload_n hC 2 dX5_dueFor_54 rfl rfl ?_
  refine g_iadd hC dX5_dueFor_55 ?_
  subst hQ
  refine g_iret (v := w + d) hC () hr ?_ rfl dX5_dueFor_56
  rw [dueF, if_neg k1_1, if_neg k1_2, if_neg k1_3]

abbrev rm_X3_owedFor : Room := { frames := 2, cells := 0, slots := 0, locals := 42 }
set_option maxRecDepth 100000 in
set_option maxHeartbeats 4000000 in
theorem c_X3_owedFor (l : Launch) (D : va_G) (cI cZ : ClassId) (hs : Nat) (hp : Nat) (hc : Nat) (c : Nat → Int32) (r : Nat → Nat) (ti : Int32) (np : Nat) (nq : Nat) (nd : Nat) (P : Nat → Nat → Nat) (k : Nat) (hk : k < 5) : CtI l yX3_owedFor wsX3_owedFor rm_X3_owedFor D cI cZ [.ref hs, .int (nI k)] [(hs, .inr (3, [.ref hp, .ref hc])), (hc, .inl (cI, 20, .inl c)), (hp, o2 r ti np nq nd), (r 1, .inl (cI, 5, .inl (fun k_ => nI (P 0 k_)))), (r 2, .inl (cI, 5, .inl (fun k_ => nI (P 1 k_)))), (r 3, .inl (cI, 5, .inl (fun k_ => nI (P 2 k_)))), (r 4, .inl (cI, 5, .inl (fun k_ => nI (P 3 k_)))), (r 5, .inl (cI, 5, .inl (fun k_ => nI (P 4 k_)))), (r 6, .inl (cI, 5, .inl (fun k_ => nI (P 5 k_))))] (fun r (_ : Unit) => r = owed P c k) (fun (_ : Unit) => [(hs, .inr (3, [.ref hp, .ref hc])), (hc, .inl (cI, 20, .inl c)), (hp, o2 r ti np nq nd), (r 1, .inl (cI, 5, .inl (fun k_ => nI (P 0 k_)))), (r 2, .inl (cI, 5, .inl (fun k_ => nI (P 1 k_)))), (r 3, .inl (cI, 5, .inl (fun k_ => nI (P 2 k_)))), (r 4, .inl (cI, 5, .inl (fun k_ => nI (P 3 k_)))), (r 5, .inl (cI, 5, .inl (fun k_ => nI (P 4 k_)))), (r 6, .inl (cI, 5, .inl (fun k_ => nI (P 5 k_))))]) 0 0 := by
  refine g_startI (ret := (some .int)) (own := RX3) (lv0 := [(0, .ref hs), (1, .int (nI k))]) (by decide) rfl rfl (Nat.le_of_ble_eq_true rfl) rfl ?_
  intro p e s m args below meth cd A Q hin hr hQ hC
  have hcw3 : ∀ w ∈ wsX30, w ∈ wsX3_owedFor := fun _ h => List.mem_cons_of_mem _ (List.mem_append_left _ (List.mem_append_right _ h))
  have w1 := hC.1.2.2.2.2 (.fieldLink "PluckBroker$State" 15 "PluckBroker$State" "plan" "LPluckBroker$Plan;") (List.mem_of_getElem? (i := 1) rfl)
  have w9 := hC.1.2.2.2.2 (.initialized "PluckBroker") (List.mem_of_getElem? (i := 9) rfl)
  have w30 := hC.1.2.2.2.2 (.static ⟨"PluckBroker", "dueFor", "(IIII)I"⟩) (List.mem_of_getElem? (i := 30) rfl)
  refine g_aload_n hC 0 dX3_owedFor_0 rfl rfl ?_
  refine g_iload_n hC 1 dX3_owedFor_1 rfl rfl ?_
  refine g_callVip (As := [.int (nI k)]) (rest := []) hC (c (5 + k)) (c_X3_standingOf l D cI cZ hs hp hc c k (by first | assumption | omega)) (cwV 1 hC.1.2.2.2.2 gX3_owedFor_X3_standingOf rfl rfl rfl dV_X3_standingOf ⟨Nat.le_of_ble_eq_true rfl, Nat.le_of_ble_eq_true rfl⟩) rfl rfl rfl rfl (Nat.le_of_ble_eq_true rfl) dX3_owedFor_2 ⟨Nat.le_of_ble_eq_true rfl, Nat.le_of_ble_eq_true rfl⟩ [0, 1] rfl rfl ?_
  refine g_iconst (v := nI 1) hC dX3_owedFor_5 rfl ?_
  refine g_icmp_eq hC 11 dX3_owedFor_6 (by decide) (fun h6t => ?_) (fun h6f => ?_)
  · refine g_aload_n hC 0 dX3_owedFor_11 rfl rfl ?_
    refine g_get (C := RX3) (T := TX3) (N := 2) (ci := 3) (v := .ref hp) hC hcw3 0 rfl rfl 0 (by decide) w1 (fun _ h => h) rfl dX3_owedFor_12 ?_
    refine g_iload_n hC 1 dX3_owedFor_15 rfl rfl ?_
    refine g_callVip (As := [.int (nI k)]) (rest := []) hC (nI (P 2 k)) (c_X2_kindOf l D cI cZ hp r ti np nq nd P k (by first | assumption | omega)) (cwV 1 hC.1.2.2.2.2 gX3_owedFor_X2_kindOf rfl rfl rfl dV_X2_kindOf ⟨Nat.le_of_ble_eq_true rfl, Nat.le_of_ble_eq_true rfl⟩) rfl rfl rfl rfl (Nat.le_of_ble_eq_true rfl) dX3_owedFor_16 ⟨Nat.le_of_ble_eq_true rfl, Nat.le_of_ble_eq_true rfl⟩ [2, 5] rfl rfl ?_
    refine g_aload_n hC 0 dX3_owedFor_19 rfl rfl ?_
    refine g_get (C := RX3) (T := TX3) (N := 2) (ci := 3) (v := .ref hp) hC hcw3 0 rfl rfl 0 (by decide) w1 (fun _ h => h) rfl dX3_owedFor_20 ?_
    refine g_iload_n hC 1 dX3_owedFor_23 rfl rfl ?_
    refine g_callVip (As := [.int (nI k)]) (rest := [.int (nI (P 2 k))]) hC (nI (P 1 k)) (c_X2_worthOf l D cI cZ hp r ti np nq nd P k (by first | assumption | omega)) (cwV 1 hC.1.2.2.2.2 gX3_owedFor_X2_worthOf rfl rfl rfl dV_X2_worthOf ⟨Nat.le_of_ble_eq_true rfl, Nat.le_of_ble_eq_true rfl⟩) rfl rfl rfl rfl (Nat.le_of_ble_eq_true rfl) dX3_owedFor_24 ⟨Nat.le_of_ble_eq_true rfl, Nat.le_of_ble_eq_true rfl⟩ [2, 4] rfl rfl ?_
    refine g_aload_n hC 0 dX3_owedFor_27 rfl rfl ?_
    refine g_callVip (As := []) (rest := [.int (nI (P 1 k)), .int (nI (P 2 k))]) hC (c 1) (c_X3_today l D cI cZ hs hp hc c) (cwV 0 hC.1.2.2.2.2 gX3_owedFor_X3_today rfl rfl rfl dV_X3_today ⟨Nat.le_of_ble_eq_true rfl, Nat.le_of_ble_eq_true rfl⟩) rfl rfl rfl rfl (Nat.le_of_ble_eq_true rfl) dX3_owedFor_28 ⟨Nat.le_of_ble_eq_true rfl, Nat.le_of_ble_eq_true rfl⟩ [0, 1] rfl rfl ?_
    refine g_aload_n hC 0 dX3_owedFor_31 rfl rfl ?_
    refine g_iload_n hC 1 dX3_owedFor_32 rfl rfl ?_
    refine g_callVip (As := [.int (nI k)]) (rest := [.int (c 1), .int (nI (P 1 k)), .int (nI (P 2 k))]) hC (c (10 + k)) (c_X3_pledgedOn l D cI cZ hs hp hc c k (by first | assumption | omega)) (cwV 1 hC.1.2.2.2.2 gX3_owedFor_X3_pledgedOn rfl rfl rfl dV_X3_pledgedOn ⟨Nat.le_of_ble_eq_true rfl, Nat.le_of_ble_eq_true rfl⟩) rfl rfl rfl rfl (Nat.le_of_ble_eq_true rfl) dX3_owedFor_33 ⟨Nat.le_of_ble_eq_true rfl, Nat.le_of_ble_eq_true rfl⟩ [0, 1] rfl rfl ?_
    refine g_isub hC dX3_owedFor_36 ?_
    refine g_aload_n hC 0 dX3_owedFor_37 rfl rfl ?_
    refine g_callVip (As := []) (rest := [.int ((c 1) - (c (10 + k))), .int (nI (P 1 k)), .int (nI (P 2 k))]) hC (c 1) (c_X3_today l D cI cZ hs hp hc c) (cwV 0 hC.1.2.2.2.2 gX3_owedFor_X3_today rfl rfl rfl dV_X3_today ⟨Nat.le_of_ble_eq_true rfl, Nat.le_of_ble_eq_true rfl⟩) rfl rfl rfl rfl (Nat.le_of_ble_eq_true rfl) dX3_owedFor_38 ⟨Nat.le_of_ble_eq_true rfl, Nat.le_of_ble_eq_true rfl⟩ [0, 1] rfl rfl ?_
    refine g_callSNip (As := [.int (nI (P 2 k)), .int (nI (P 1 k)), .int ((c 1) - (c (10 + k))), .int (c 1)]) (rest := []) hC (dueF (nI (P 2 k)) (nI (P 1 k)) ((c 1) - (c (10 + k))) (c 1)) (c_X5_dueFor l D cI cZ (nI (P 2 k)) (nI (P 1 k)) ((c 1) - (c (10 + k))) (c 1)) ⟨va_cnB 4 hC.1.2.2.2.2 gX3_owedFor_X5_dueFor_n72 rfl rfl rfl (hC.2.2.1.m 10 rfl) w9 dS_X5_dueFor ⟨Nat.le_of_ble_eq_true rfl, Nat.le_of_ble_eq_true rfl⟩, w30, trivial⟩ rfl rfl (Nat.le_of_ble_eq_true rfl) dX3_owedFor_41 ⟨Nat.le_of_ble_eq_true rfl, Nat.le_of_ble_eq_true rfl⟩ [] rfl rfl ?_
    subst hQ
    refine g_iret (v := dueF (nI (P 2 k)) (nI (P 1 k)) ((c 1) - (c (10 + k))) (c 1)) hC () hr ?_ rfl dX3_owedFor_44
    rw [owed, if_pos h6t]
  refine g_iconst (v := nI 0) hC dX3_owedFor_9 rfl ?_
  subst hQ
  refine g_iret (v := nI 0) hC () hr ?_ rfl dX3_owedFor_10
  rw [owed, if_neg h6f]

abbrev rm_X3_inAllPurses : Room := { frames := 2, cells := 0, slots := 0, locals := 42 }
set_option maxRecDepth 100000 in
set_option maxHeartbeats 4000000 in
theorem c_X3_inAllPurses (l : Launch) (D : va_G) (cI cZ : ClassId) (hs : Nat) (hp : Nat) (hc : Nat) (c : Nat → Int32) (r : Nat → Nat) (ti : Int32) (np : Nat) (nq : Nat) (nd : Nat) (hb : np ≤ 3) : CtI l yX3_inAllPurses wsX3_inAllPurses rm_X3_inAllPurses D cI cZ [.ref hs] [(hs, .inr (3, [.ref hp, .ref hc])), (hc, .inl (cI, 20, .inl c)), (hp, o2 r ti np nq nd)] (fun r (_ : Unit) => r = sumP c np) (fun (_ : Unit) => [(hs, .inr (3, [.ref hp, .ref hc])), (hc, .inl (cI, 20, .inl c)), (hp, o2 r ti np nq nd)]) 0 0 := by
  refine g_startI (ret := (some .int)) (own := RX3) (lv0 := [(0, .ref hs)]) (by decide) rfl rfl (Nat.le_of_ble_eq_true rfl) rfl ?_
  intro p e s m args below meth cd A Q hin hr hQ hC
  have hcw2 : ∀ w ∈ wsX20, w ∈ wsX3_inAllPurses := fun _ h => List.mem_cons_of_mem _ (List.mem_append_right _ h)
  have hcw3 : ∀ w ∈ wsX30, w ∈ wsX3_inAllPurses := fun _ h => List.mem_cons_of_mem _ (List.mem_append_left _ (List.mem_append_right _ h))
  have w1 := hC.1.2.2.2.2 (.fieldLink "PluckBroker$State" 15 "PluckBroker$State" "plan" "LPluckBroker$Plan;") (List.mem_of_getElem? (i := 1) rfl)
  refine g_iconst (v := nI 0) hC dX3_inAllPurses_0 rfl ?_
  refine g_istore_n (lv' := [(0, .ref hs), (1, .int (nI 0))]) hC [1, 0] dX3_inAllPurses_1 rfl (by decide) rfl ?_
  refine g_iconst (v := nI 0) hC dX3_inAllPurses_2 rfl ?_
  refine g_istore_n (lv' := [(0, .ref hs), (1, .int (nI 0)), (2, .int (nI 0))]) hC [1, 2, 0] dX3_inAllPurses_3 rfl (by decide) rfl ?_
  have L4 : ∀ (n : Nat) (i : Nat) (x : Int32), (i ≤ np) → (x = sumP c i) → np - i < n → G p l e rm_X3_inAllPurses s m args below meth cd D A 0 0 Q 3 [(hs, .inr (3, [.ref hp, .ref hc])), (hc, .inl (cI, 20, .inl c)), (hp, o2 r ti np nq nd)] 4 [(0, .ref hs), (1, .int x), (2, .int (nI i))] [] := by
    intro n
    induction n with
    | zero => intro i x hi hx hn; exact absurd hn (Nat.not_lt_zero _)
    | succ n ih4 =>
      intro i x hi hx hn
      refine g_iload_n hC 2 dX3_inAllPurses_4 rfl rfl ?_
      refine g_aload_n hC 0 dX3_inAllPurses_5 rfl rfl ?_
      refine g_get (C := RX3) (T := TX3) (N := 2) (ci := 3) (v := .ref hp) hC hcw3 0 rfl rfl 0 (by decide) w1 (fun _ h => h) rfl dX3_inAllPurses_6 ?_
      refine g_getN (C := RX2) (T := TX2) (N := 11) (ci := 2) (v := .int (nI np)) hC hcw2 2 rfl rfl 8 (by decide) (hC.2.2.1.f 3 rfl) (fun _ h => h) rfl dX3_inAllPurses_9 ?_
      refine g_icmp_ge_n (a := i) (b := np) hC (by omega) (by omega) 29 dX3_inAllPurses_12 (by decide) (fun h12t => ?_) (fun h12f => ?_)
      · refine g_iload_n hC 1 dX3_inAllPurses_29 rfl rfl ?_
        subst hQ
        refine g_iret (v := x) hC () hr ?_ rfl dX3_inAllPurses_30
        have ei : i = np := by omega
        rw [ei] at hx; exact hx
      refine g_iload_n hC 1 dX3_inAllPurses_15 rfl rfl ?_
      refine g_aload_n hC 0 dX3_inAllPurses_16 rfl rfl ?_
      refine g_iload_n hC 2 dX3_inAllPurses_17 rfl rfl ?_
      refine g_callVip (As := [.int (nI i)]) (rest := [.int x]) hC (c (2 + i)) (c_X3_purseOf l D cI cZ hs hp hc c i (by first | assumption | omega)) (cwV 1 hC.1.2.2.2.2 gX3_inAllPurses_X3_purseOf rfl rfl rfl dV_X3_purseOf ⟨Nat.le_of_ble_eq_true rfl, Nat.le_of_ble_eq_true rfl⟩) rfl rfl rfl rfl (Nat.le_of_ble_eq_true rfl) dX3_inAllPurses_18 ⟨Nat.le_of_ble_eq_true rfl, Nat.le_of_ble_eq_true rfl⟩ [0, 1] rfl rfl ?_
      refine g_iadd hC dX3_inAllPurses_21 ?_
      refine g_istore_n (lv' := [(0, .ref hs), (1, .int (x + (c (2 + i)))), (2, .int (nI i))]) hC [1, 0, 2] dX3_inAllPurses_22 rfl (by decide) rfl ?_
      refine g_iinc (v := nI (i + 1)) (lv' := [(0, .ref hs), (1, .int (x + (c (2 + i)))), (2, .int (nI (i + 1)))]) hC 2 [1, 2, 0] dX3_inAllPurses_23 rfl (nI_add _ 1) (by decide) rfl ?_
      refine g_goto hC 4 dX3_inAllPurses_26 (by decide) ?_
      refine ih4 (i + 1) (x + (c (2 + i))) ?_ ?_ ?_
      · omega
      · rw [hx]; rfl
      · omega
  refine L4 _ 0 (nI 0) ?_ ?_ (Nat.lt_succ_self _)
  · omega
  · rfl

abbrev rm_X3_qualitiesThatAre : Room := { frames := 2, cells := 0, slots := 0, locals := 42 }
set_option maxRecDepth 100000 in
set_option maxHeartbeats 4000000 in
theorem c_X3_qualitiesThatAre (l : Launch) (D : va_G) (cI cZ : ClassId) (hs : Nat) (hp : Nat) (hc : Nat) (c : Nat → Int32) (r : Nat → Nat) (ti : Int32) (np : Nat) (nq : Nat) (nd : Nat) (a : Int32) (hb : nq ≤ 5) : CtI l yX3_qualitiesThatAre wsX3_qualitiesThatAre rm_X3_qualitiesThatAre D cI cZ [.ref hs, .int a] [(hs, .inr (3, [.ref hp, .ref hc])), (hc, .inl (cI, 20, .inl c)), (hp, o2 r ti np nq nd)] (fun r (_ : Unit) => r = nI (thatAre nq c a)) (fun (_ : Unit) => [(hs, .inr (3, [.ref hp, .ref hc])), (hc, .inl (cI, 20, .inl c)), (hp, o2 r ti np nq nd)]) 0 0 := by
  refine g_startI (ret := (some .int)) (own := RX3) (lv0 := [(0, .ref hs), (1, .int a)]) (by decide) rfl rfl (Nat.le_of_ble_eq_true rfl) rfl ?_
  intro p e s m args below meth cd A Q hin hr hQ hC
  have hcw2 : ∀ w ∈ wsX20, w ∈ wsX3_qualitiesThatAre := fun _ h => List.mem_cons_of_mem _ (List.mem_append_right _ h)
  have hcw3 : ∀ w ∈ wsX30, w ∈ wsX3_qualitiesThatAre := fun _ h => List.mem_cons_of_mem _ (List.mem_append_left _ (List.mem_append_right _ h))
  have w1 := hC.1.2.2.2.2 (.fieldLink "PluckBroker$State" 15 "PluckBroker$State" "plan" "LPluckBroker$Plan;") (List.mem_of_getElem? (i := 1) rfl)
  refine g_iconst (v := nI 0) hC dX3_qualitiesThatAre_0 rfl ?_
  refine g_istore_n (lv' := [(0, .ref hs), (1, .int a), (2, .int (nI 0))]) hC [1, 2, 0] dX3_qualitiesThatAre_1 rfl (by decide) rfl ?_
  refine g_iconst (v := nI 0) hC dX3_qualitiesThatAre_2 rfl ?_
  refine g_istore_n (lv' := [(0, .ref hs), (1, .int a), (2, .int (nI 0)), (3, .int (nI 0))]) hC [1, 2, 3, 0] dX3_qualitiesThatAre_3 rfl (by decide) rfl ?_
  have L4 : ∀ (n : Nat) (i : Nat) (acc : Nat), (i ≤ nq) → (acc = bts i (fun q => decide (c (5 + q) = a))) → nq - i < n → G p l e rm_X3_qualitiesThatAre s m args below meth cd D A 0 0 Q 4 [(hs, .inr (3, [.ref hp, .ref hc])), (hc, .inl (cI, 20, .inl c)), (hp, o2 r ti np nq nd)] 4 [(0, .ref hs), (1, .int a), (2, .int (nI acc)), (3, .int (nI i))] [] := by
    intro n
    induction n with
    | zero => intro i acc hi hacc hn; exact absurd hn (Nat.not_lt_zero _)
    | succ n ih4 =>
      intro i acc hi hacc hn
      refine g_iload_n hC 3 dX3_qualitiesThatAre_4 rfl rfl ?_
      refine g_aload_n hC 0 dX3_qualitiesThatAre_5 rfl rfl ?_
      refine g_get (C := RX3) (T := TX3) (N := 2) (ci := 3) (v := .ref hp) hC hcw3 0 rfl rfl 0 (by decide) w1 (fun _ h => h) rfl dX3_qualitiesThatAre_6 ?_
      refine g_getN (C := RX2) (T := TX2) (N := 11) (ci := 2) (v := .int (nI nq)) hC hcw2 2 rfl rfl 9 (by decide) (hC.2.2.1.f 8 rfl) (fun _ h => h) rfl dX3_qualitiesThatAre_9 ?_
      refine g_icmp_ge_n (a := i) (b := nq) hC (by omega) (by omega) 40 dX3_qualitiesThatAre_12 (by decide) (fun h12t => ?_) (fun h12f => ?_)
      · refine g_iload_n hC 2 dX3_qualitiesThatAre_40 rfl rfl ?_
        subst hQ
        refine g_iret (v := nI acc) hC () hr ?_ rfl dX3_qualitiesThatAre_41
        have ei : i = nq := by omega
        rw [ei] at hacc; rw [hacc]; rfl
      refine g_iload_n hC 2 dX3_qualitiesThatAre_15 rfl rfl ?_
      refine g_aload_n hC 0 dX3_qualitiesThatAre_16 rfl rfl ?_
      refine g_iload_n hC 3 dX3_qualitiesThatAre_17 rfl rfl ?_
      refine g_callVip (As := [.int (nI i)]) (rest := [.int (nI acc)]) hC (c (5 + i)) (c_X3_standingOf l D cI cZ hs hp hc c i (by first | assumption | omega)) (cwV 1 hC.1.2.2.2.2 gX3_qualitiesThatAre_X3_standingOf rfl rfl rfl dV_X3_standingOf ⟨Nat.le_of_ble_eq_true rfl, Nat.le_of_ble_eq_true rfl⟩) rfl rfl rfl rfl (Nat.le_of_ble_eq_true rfl) dX3_qualitiesThatAre_18 ⟨Nat.le_of_ble_eq_true rfl, Nat.le_of_ble_eq_true rfl⟩ [0, 1] rfl rfl ?_
      refine g_iload_n hC 1 dX3_qualitiesThatAre_21 rfl rfl ?_
      refine g_icmp_ne hC 31 dX3_qualitiesThatAre_22 (by decide) (fun h22t => ?_) (fun h22f => ?_)
      · refine g_iconst (v := nI 0) hC dX3_qualitiesThatAre_31 rfl ?_
        refine g_ior_n (a := acc) (b := 0) hC dX3_qualitiesThatAre_32 ?_
        refine g_istore_n (lv' := [(0, .ref hs), (1, .int a), (2, .int (nI (acc ||| 0))), (3, .int (nI i))]) hC [1, 2, 0, 3] dX3_qualitiesThatAre_33 rfl (by decide) rfl ?_
        refine g_iinc (v := nI (i + 1)) (lv' := [(0, .ref hs), (1, .int a), (2, .int (nI (acc ||| 0))), (3, .int (nI (i + 1)))]) hC 3 [1, 2, 3, 0] dX3_qualitiesThatAre_34 rfl (nI_add _ 1) (by decide) rfl ?_
        refine g_goto hC 4 dX3_qualitiesThatAre_37 (by decide) ?_
        refine ih4 (i + 1) (acc ||| 0) ?_ ?_ ?_
        · omega
        · rw [hacc]; exact bts_f (decide_eq_false h22t)
        · omega
      refine g_iconst (v := nI 1) hC dX3_qualitiesThatAre_25 rfl ?_
      refine g_iload_n hC 3 dX3_qualitiesThatAre_26 rfl rfl ?_
      refine g_shl1_n (b := i) hC (by omega) dX3_qualitiesThatAre_27 ?_
      refine g_goto hC 32 dX3_qualitiesThatAre_28 (by decide) ?_
      refine g_ior_n (a := acc) (b := (2 ^ i)) hC dX3_qualitiesThatAre_32 ?_
      refine g_istore_n (lv' := [(0, .ref hs), (1, .int a), (2, .int (nI (acc ||| (2 ^ i)))), (3, .int (nI i))]) hC [1, 2, 0, 3] dX3_qualitiesThatAre_33 rfl (by decide) rfl ?_
      refine g_iinc (v := nI (i + 1)) (lv' := [(0, .ref hs), (1, .int a), (2, .int (nI (acc ||| (2 ^ i)))), (3, .int (nI (i + 1)))]) hC 3 [1, 2, 3, 0] dX3_qualitiesThatAre_34 rfl (nI_add _ 1) (by decide) rfl ?_
      refine g_goto hC 4 dX3_qualitiesThatAre_37 (by decide) ?_
      refine ih4 (i + 1) (acc ||| (2 ^ i)) ?_ ?_ ?_
      · omega
      · rw [hacc]; exact bts_t (decide_eq_true h22f)
      · omega
  refine L4 _ 0 0 ?_ ?_ (Nat.lt_succ_self _)
  · omega
  · rfl

abbrev rm_X3_deedsThatAre : Room := { frames := 2, cells := 0, slots := 0, locals := 42 }
set_option maxRecDepth 100000 in
set_option maxHeartbeats 4000000 in
theorem c_X3_deedsThatAre (l : Launch) (D : va_G) (cI cZ : ClassId) (hs : Nat) (hp : Nat) (hc : Nat) (c : Nat → Int32) (r : Nat → Nat) (ti : Int32) (np : Nat) (nq : Nat) (nd : Nat) (a : Int32) (hb : nd ≤ 5) : CtI l yX3_deedsThatAre wsX3_deedsThatAre rm_X3_deedsThatAre D cI cZ [.ref hs, .int a] [(hs, .inr (3, [.ref hp, .ref hc])), (hc, .inl (cI, 20, .inl c)), (hp, o2 r ti np nq nd)] (fun r (_ : Unit) => r = nI (deedsThat nd c a)) (fun (_ : Unit) => [(hs, .inr (3, [.ref hp, .ref hc])), (hc, .inl (cI, 20, .inl c)), (hp, o2 r ti np nq nd)]) 0 0 := by
  refine g_startI (ret := (some .int)) (own := RX3) (lv0 := [(0, .ref hs), (1, .int a)]) (by decide) rfl rfl (Nat.le_of_ble_eq_true rfl) rfl ?_
  intro p e s m args below meth cd A Q hin hr hQ hC
  have hcw2 : ∀ w ∈ wsX20, w ∈ wsX3_deedsThatAre := fun _ h => List.mem_cons_of_mem _ (List.mem_append_right _ h)
  have hcw3 : ∀ w ∈ wsX30, w ∈ wsX3_deedsThatAre := fun _ h => List.mem_cons_of_mem _ (List.mem_append_left _ (List.mem_append_right _ h))
  have w1 := hC.1.2.2.2.2 (.fieldLink "PluckBroker$State" 15 "PluckBroker$State" "plan" "LPluckBroker$Plan;") (List.mem_of_getElem? (i := 1) rfl)
  refine g_iconst (v := nI 0) hC dX3_deedsThatAre_0 rfl ?_
  refine g_istore_n (lv' := [(0, .ref hs), (1, .int a), (2, .int (nI 0))]) hC [1, 2, 0] dX3_deedsThatAre_1 rfl (by decide) rfl ?_
  refine g_iconst (v := nI 0) hC dX3_deedsThatAre_2 rfl ?_
  refine g_istore_n (lv' := [(0, .ref hs), (1, .int a), (2, .int (nI 0)), (3, .int (nI 0))]) hC [1, 2, 3, 0] dX3_deedsThatAre_3 rfl (by decide) rfl ?_
  have L4 : ∀ (n : Nat) (i : Nat) (acc : Nat), (i ≤ nd) → (acc = bts i (fun d => decide (c (15 + d) = a))) → nd - i < n → G p l e rm_X3_deedsThatAre s m args below meth cd D A 0 0 Q 4 [(hs, .inr (3, [.ref hp, .ref hc])), (hc, .inl (cI, 20, .inl c)), (hp, o2 r ti np nq nd)] 4 [(0, .ref hs), (1, .int a), (2, .int (nI acc)), (3, .int (nI i))] [] := by
    intro n
    induction n with
    | zero => intro i acc hi hacc hn; exact absurd hn (Nat.not_lt_zero _)
    | succ n ih4 =>
      intro i acc hi hacc hn
      refine g_iload_n hC 3 dX3_deedsThatAre_4 rfl rfl ?_
      refine g_aload_n hC 0 dX3_deedsThatAre_5 rfl rfl ?_
      refine g_get (C := RX3) (T := TX3) (N := 2) (ci := 3) (v := .ref hp) hC hcw3 0 rfl rfl 0 (by decide) w1 (fun _ h => h) rfl dX3_deedsThatAre_6 ?_
      refine g_getN (C := RX2) (T := TX2) (N := 11) (ci := 2) (v := .int (nI nd)) hC hcw2 2 rfl rfl 10 (by decide) (hC.2.2.1.f 11 rfl) (fun _ h => h) rfl dX3_deedsThatAre_9 ?_
      refine g_icmp_ge_n (a := i) (b := nd) hC (by omega) (by omega) 40 dX3_deedsThatAre_12 (by decide) (fun h12t => ?_) (fun h12f => ?_)
      · refine g_iload_n hC 2 dX3_deedsThatAre_40 rfl rfl ?_
        subst hQ
        refine g_iret (v := nI acc) hC () hr ?_ rfl dX3_deedsThatAre_41
        have ei : i = nd := by omega
        rw [ei] at hacc; rw [hacc]; rfl
      refine g_iload_n hC 2 dX3_deedsThatAre_15 rfl rfl ?_
      refine g_aload_n hC 0 dX3_deedsThatAre_16 rfl rfl ?_
      refine g_iload_n hC 3 dX3_deedsThatAre_17 rfl rfl ?_
      refine g_callVip (As := [.int (nI i)]) (rest := [.int (nI acc)]) hC (c (15 + i)) (c_X3_outcomeOf l D cI cZ hs hp hc c i (by first | assumption | omega)) (cwV 1 hC.1.2.2.2.2 gX3_deedsThatAre_X3_outcomeOf rfl rfl rfl dV_X3_outcomeOf ⟨Nat.le_of_ble_eq_true rfl, Nat.le_of_ble_eq_true rfl⟩) rfl rfl rfl rfl (Nat.le_of_ble_eq_true rfl) dX3_deedsThatAre_18 ⟨Nat.le_of_ble_eq_true rfl, Nat.le_of_ble_eq_true rfl⟩ [0, 1] rfl rfl ?_
      refine g_iload_n hC 1 dX3_deedsThatAre_21 rfl rfl ?_
      refine g_icmp_ne hC 31 dX3_deedsThatAre_22 (by decide) (fun h22t => ?_) (fun h22f => ?_)
      · refine g_iconst (v := nI 0) hC dX3_deedsThatAre_31 rfl ?_
        refine g_ior_n (a := acc) (b := 0) hC dX3_deedsThatAre_32 ?_
        refine g_istore_n (lv' := [(0, .ref hs), (1, .int a), (2, .int (nI (acc ||| 0))), (3, .int (nI i))]) hC [1, 2, 0, 3] dX3_deedsThatAre_33 rfl (by decide) rfl ?_
        refine g_iinc (v := nI (i + 1)) (lv' := [(0, .ref hs), (1, .int a), (2, .int (nI (acc ||| 0))), (3, .int (nI (i + 1)))]) hC 3 [1, 2, 3, 0] dX3_deedsThatAre_34 rfl (nI_add _ 1) (by decide) rfl ?_
        refine g_goto hC 4 dX3_deedsThatAre_37 (by decide) ?_
        refine ih4 (i + 1) (acc ||| 0) ?_ ?_ ?_
        · omega
        · rw [hacc]; exact bts_f (decide_eq_false h22t)
        · omega
      refine g_iconst (v := nI 1) hC dX3_deedsThatAre_25 rfl ?_
      refine g_iload_n hC 3 dX3_deedsThatAre_26 rfl rfl ?_
      refine g_shl1_n (b := i) hC (by omega) dX3_deedsThatAre_27 ?_
      refine g_goto hC 32 dX3_deedsThatAre_28 (by decide) ?_
      refine g_ior_n (a := acc) (b := (2 ^ i)) hC dX3_deedsThatAre_32 ?_
      refine g_istore_n (lv' := [(0, .ref hs), (1, .int a), (2, .int (nI (acc ||| (2 ^ i)))), (3, .int (nI i))]) hC [1, 2, 0, 3] dX3_deedsThatAre_33 rfl (by decide) rfl ?_
      refine g_iinc (v := nI (i + 1)) (lv' := [(0, .ref hs), (1, .int a), (2, .int (nI (acc ||| (2 ^ i)))), (3, .int (nI (i + 1)))]) hC 3 [1, 2, 3, 0] dX3_deedsThatAre_34 rfl (nI_add _ 1) (by decide) rfl ?_
      refine g_goto hC 4 dX3_deedsThatAre_37 (by decide) ?_
      refine ih4 (i + 1) (acc ||| (2 ^ i)) ?_ ?_ ?_
      · omega
      · rw [hacc]; exact bts_t (decide_eq_true h22f)
      · omega
  refine L4 _ 0 0 ?_ ?_ (Nat.lt_succ_self _)
  · omega
  · rfl

abbrev rm_X3_canPledge : Room := { frames := 2, cells := 0, slots := 0, locals := 42 }
set_option maxRecDepth 100000 in
set_option maxHeartbeats 4000000 in
theorem c_X3_canPledge (l : Launch) (D : va_G) (cI cZ : ClassId) (hs : Nat) (hp : Nat) (hc : Nat) (c : Nat → Int32) (r : Nat → Nat) (ti : Int32) (np : Nat) (nq : Nat) (nd : Nat) (P : Nat → Nat → Nat) (k : Nat) (hW : WFP np nq nd P) (hk : k < nq) : CtI l yX3_canPledge wsX3_canPledge rm_X3_canPledge D cI cZ [.ref hs, .int (nI k)] [(hs, .inr (3, [.ref hp, .ref hc])), (hc, .inl (cI, 20, .inl c)), (hp, o2 r ti np nq nd), (r 1, .inl (cI, 5, .inl (fun k_ => nI (P 0 k_)))), (r 2, .inl (cI, 5, .inl (fun k_ => nI (P 1 k_)))), (r 3, .inl (cI, 5, .inl (fun k_ => nI (P 2 k_)))), (r 4, .inl (cI, 5, .inl (fun k_ => nI (P 3 k_)))), (r 5, .inl (cI, 5, .inl (fun k_ => nI (P 4 k_)))), (r 6, .inl (cI, 5, .inl (fun k_ => nI (P 5 k_))))] (fun r (_ : Unit) => r = bI (canP P c k)) (fun (_ : Unit) => [(hs, .inr (3, [.ref hp, .ref hc])), (hc, .inl (cI, 20, .inl c)), (hp, o2 r ti np nq nd), (r 1, .inl (cI, 5, .inl (fun k_ => nI (P 0 k_)))), (r 2, .inl (cI, 5, .inl (fun k_ => nI (P 1 k_)))), (r 3, .inl (cI, 5, .inl (fun k_ => nI (P 2 k_)))), (r 4, .inl (cI, 5, .inl (fun k_ => nI (P 3 k_)))), (r 5, .inl (cI, 5, .inl (fun k_ => nI (P 4 k_)))), (r 6, .inl (cI, 5, .inl (fun k_ => nI (P 5 k_))))]) 0 0 := by
  refine g_startI (ret := (some .boolean)) (own := RX3) (lv0 := [(0, .ref hs), (1, .int (nI k))]) (by decide) rfl rfl (Nat.le_of_ble_eq_true rfl) rfl ?_
  intro p e s m args below meth cd A Q hin hr hQ hC
  have hcw3 : ∀ w ∈ wsX30, w ∈ wsX3_canPledge := fun _ h => List.mem_cons_of_mem _ (List.mem_append_left _ (List.mem_append_right _ h))
  have w1 := hC.1.2.2.2.2 (.fieldLink "PluckBroker$State" 15 "PluckBroker$State" "plan" "LPluckBroker$Plan;") (List.mem_of_getElem? (i := 1) rfl)
  obtain ⟨⟨hnp, hnq, hnd⟩, hq4, hd5⟩ := id hW
  have hk5 : k < 5 := by omega
  have ho3 : P 0 k < 3 := by have := (hq4 k hk).1; omega
  refine g_aload_n hC 0 dX3_canPledge_0 rfl rfl ?_
  refine g_get (C := RX3) (T := TX3) (N := 2) (ci := 3) (v := .ref hp) hC hcw3 0 rfl rfl 0 (by decide) w1 (fun _ h => h) rfl dX3_canPledge_1 ?_
  refine g_iload_n hC 1 dX3_canPledge_4 rfl rfl ?_
  refine g_callVip (As := [.int (nI k)]) (rest := []) hC (bI (inR (nI k) nq)) (c_X2_hasQuality l D cI cZ hp r ti np nq nd (nI k) hnq) (cwV 1 hC.1.2.2.2.2 gX3_canPledge_X2_hasQuality rfl rfl rfl dV_X2_hasQuality ⟨Nat.le_of_ble_eq_true rfl, Nat.le_of_ble_eq_true rfl⟩) rfl rfl rfl rfl (Nat.le_of_ble_eq_true rfl) dX3_canPledge_5 ⟨Nat.le_of_ble_eq_true rfl, Nat.le_of_ble_eq_true rfl⟩ [2] rfl rfl ?_
  refine g_if_eq_b hC 38 dX3_canPledge_8 (by decide) (fun h8t => ?_) (fun h8f => ?_)
  · exact absurd (inR_k (by omega) hk) h8t
  refine g_aload_n hC 0 dX3_canPledge_11 rfl rfl ?_
  refine g_iload_n hC 1 dX3_canPledge_12 rfl rfl ?_
  refine g_callVip (As := [.int (nI k)]) (rest := []) hC (c (5 + k)) (c_X3_standingOf l D cI cZ hs hp hc c k (by first | assumption | omega)) (cwV 1 hC.1.2.2.2.2 gX3_canPledge_X3_standingOf rfl rfl rfl dV_X3_standingOf ⟨Nat.le_of_ble_eq_true rfl, Nat.le_of_ble_eq_true rfl⟩) rfl rfl rfl rfl (Nat.le_of_ble_eq_true rfl) dX3_canPledge_13 ⟨Nat.le_of_ble_eq_true rfl, Nat.le_of_ble_eq_true rfl⟩ [0, 1] rfl rfl ?_
  refine g_if_ne hC 38 dX3_canPledge_16 (by decide) (fun h16t => ?_) (fun h16f => ?_)
  · refine g_iconst (v := nI 0) hC dX3_canPledge_38 rfl ?_
    subst hQ
    refine g_zret (v := nI 0) hC () hr (by decide +kernel) ?_ rfl dX3_canPledge_39
    refine (bI_f (fun q => h16t ?_)).symm
    exact q.1
  refine g_aload_n hC 0 dX3_canPledge_19 rfl rfl ?_
  refine g_callVip (As := []) (rest := []) hC (c 0) (c_X3_inTill l D cI cZ hs hp hc c) (cwV 0 hC.1.2.2.2.2 gX3_canPledge_X3_inTill rfl rfl rfl dV_X3_inTill ⟨Nat.le_of_ble_eq_true rfl, Nat.le_of_ble_eq_true rfl⟩) rfl rfl rfl rfl (Nat.le_of_ble_eq_true rfl) dX3_canPledge_20 ⟨Nat.le_of_ble_eq_true rfl, Nat.le_of_ble_eq_true rfl⟩ [0, 1] rfl rfl ?_
  refine g_aload_n hC 0 dX3_canPledge_23 rfl rfl ?_
  refine g_get (C := RX3) (T := TX3) (N := 2) (ci := 3) (v := .ref hp) hC hcw3 0 rfl rfl 0 (by decide) w1 (fun _ h => h) rfl dX3_canPledge_24 ?_
  refine g_iload_n hC 1 dX3_canPledge_27 rfl rfl ?_
  refine g_callVip (As := [.int (nI k)]) (rest := [.int (c 0)]) hC (nI (P 1 k)) (c_X2_worthOf l D cI cZ hp r ti np nq nd P k (by first | assumption | omega)) (cwV 1 hC.1.2.2.2.2 gX3_canPledge_X2_worthOf rfl rfl rfl dV_X2_worthOf ⟨Nat.le_of_ble_eq_true rfl, Nat.le_of_ble_eq_true rfl⟩) rfl rfl rfl rfl (Nat.le_of_ble_eq_true rfl) dX3_canPledge_28 ⟨Nat.le_of_ble_eq_true rfl, Nat.le_of_ble_eq_true rfl⟩ [2, 4] rfl rfl ?_
  refine g_icmp_lt hC 38 dX3_canPledge_31 (by decide) (fun h31t => ?_) (fun h31f => ?_)
  · refine g_iconst (v := nI 0) hC dX3_canPledge_38 rfl ?_
    subst hQ
    refine g_zret (v := nI 0) hC () hr (by decide +kernel) ?_ rfl dX3_canPledge_39
    exact (bI_f (fun q => absurd q.2 (Int32.not_le.mpr h31t))).symm
  refine g_iconst (v := nI 1) hC dX3_canPledge_34 rfl ?_
  refine g_goto hC 39 dX3_canPledge_35 (by decide) ?_
  subst hQ
  refine g_zret (v := nI 1) hC () hr (by decide +kernel) ?_ rfl dX3_canPledge_39
  exact (bI_t ⟨h16f, Int32.not_lt.mp h31f⟩).symm

abbrev rm_X3_canPledge_no : Room := { frames := 1, cells := 0, slots := 0, locals := 21 }
set_option maxRecDepth 100000 in
set_option maxHeartbeats 4000000 in
theorem c_X3_canPledge_no (l : Launch) (D : va_G) (cI cZ : ClassId) (hs : Nat) (hp : Nat) (hc : Nat) (c : Nat → Int32) (r : Nat → Nat) (ti : Int32) (np : Nat) (nq : Nat) (nd : Nat) (P : Nat → Nat → Nat) (a : Int32) (hW : WFP np nq nd P) (ha : ¬ inR a nq) : CtI l yX3_canPledge wsX3_canPledge rm_X3_canPledge_no D cI cZ [.ref hs, .int a] [(hs, .inr (3, [.ref hp, .ref hc])), (hc, .inl (cI, 20, .inl c)), (hp, o2 r ti np nq nd), (r 1, .inl (cI, 5, .inl (fun k_ => nI (P 0 k_)))), (r 2, .inl (cI, 5, .inl (fun k_ => nI (P 1 k_)))), (r 3, .inl (cI, 5, .inl (fun k_ => nI (P 2 k_)))), (r 4, .inl (cI, 5, .inl (fun k_ => nI (P 3 k_)))), (r 5, .inl (cI, 5, .inl (fun k_ => nI (P 4 k_)))), (r 6, .inl (cI, 5, .inl (fun k_ => nI (P 5 k_))))] (fun r (_ : Unit) => r = nI 0) (fun (_ : Unit) => [(hs, .inr (3, [.ref hp, .ref hc])), (hc, .inl (cI, 20, .inl c)), (hp, o2 r ti np nq nd), (r 1, .inl (cI, 5, .inl (fun k_ => nI (P 0 k_)))), (r 2, .inl (cI, 5, .inl (fun k_ => nI (P 1 k_)))), (r 3, .inl (cI, 5, .inl (fun k_ => nI (P 2 k_)))), (r 4, .inl (cI, 5, .inl (fun k_ => nI (P 3 k_)))), (r 5, .inl (cI, 5, .inl (fun k_ => nI (P 4 k_)))), (r 6, .inl (cI, 5, .inl (fun k_ => nI (P 5 k_))))]) 0 0 := by
  refine g_startI (ret := (some .boolean)) (own := RX3) (lv0 := [(0, .ref hs), (1, .int a)]) (by decide) rfl rfl (Nat.le_of_ble_eq_true rfl) rfl ?_
  intro p e s m args below meth cd A Q hin hr hQ hC
  have hcw3 : ∀ w ∈ wsX30, w ∈ wsX3_canPledge := fun _ h => List.mem_cons_of_mem _ (List.mem_append_left _ (List.mem_append_right _ h))
  have w1 := hC.1.2.2.2.2 (.fieldLink "PluckBroker$State" 15 "PluckBroker$State" "plan" "LPluckBroker$Plan;") (List.mem_of_getElem? (i := 1) rfl)
  obtain ⟨⟨hnp, hnq, hnd⟩, hq4, hd5⟩ := id hW
  refine g_aload_n hC 0 dX3_canPledge_0 rfl rfl ?_
  refine g_get (C := RX3) (T := TX3) (N := 2) (ci := 3) (v := .ref hp) hC hcw3 0 rfl rfl 0 (by decide) w1 (fun _ h => h) rfl dX3_canPledge_1 ?_
  refine g_iload_n hC 1 dX3_canPledge_4 rfl rfl ?_
  refine g_callVip (As := [.int a]) (rest := []) hC (bI (inR a nq)) (c_X2_hasQuality l D cI cZ hp r ti np nq nd a hnq) (cwV 1 hC.1.2.2.2.2 gX3_canPledge_X2_hasQuality rfl rfl rfl dV_X2_hasQuality ⟨Nat.le_of_ble_eq_true rfl, Nat.le_of_ble_eq_true rfl⟩) rfl rfl rfl rfl (Nat.le_of_ble_eq_true rfl) dX3_canPledge_5 ⟨Nat.le_of_ble_eq_true rfl, Nat.le_of_ble_eq_true rfl⟩ [2] rfl rfl ?_
  refine g_if_eq_b hC 38 dX3_canPledge_8 (by decide) (fun h8t => ?_) (fun h8f => ?_)
  · refine g_iconst (v := nI 0) hC dX3_canPledge_38 rfl ?_
    subst hQ
    refine g_zret (v := nI 0) hC () hr (by decide +kernel) ?_ rfl dX3_canPledge_39
    rfl
  exact absurd h8f ha

abbrev rm_X3_canRedeem : Room := { frames := 3, cells := 0, slots := 0, locals := 63 }
set_option maxRecDepth 100000 in
set_option maxHeartbeats 4000000 in
theorem c_X3_canRedeem (l : Launch) (D : va_G) (cI cZ : ClassId) (hs : Nat) (hp : Nat) (hc : Nat) (c : Nat → Int32) (r : Nat → Nat) (ti : Int32) (np : Nat) (nq : Nat) (nd : Nat) (P : Nat → Nat → Nat) (k : Nat) (hW : WFP np nq nd P) (hk : k < nq) : CtI l yX3_canRedeem wsX3_canRedeem rm_X3_canRedeem D cI cZ [.ref hs, .int (nI k)] [(hs, .inr (3, [.ref hp, .ref hc])), (hc, .inl (cI, 20, .inl c)), (hp, o2 r ti np nq nd), (r 1, .inl (cI, 5, .inl (fun k_ => nI (P 0 k_)))), (r 2, .inl (cI, 5, .inl (fun k_ => nI (P 1 k_)))), (r 3, .inl (cI, 5, .inl (fun k_ => nI (P 2 k_)))), (r 4, .inl (cI, 5, .inl (fun k_ => nI (P 3 k_)))), (r 5, .inl (cI, 5, .inl (fun k_ => nI (P 4 k_)))), (r 6, .inl (cI, 5, .inl (fun k_ => nI (P 5 k_))))] (fun r (_ : Unit) => r = bI (canR P c k)) (fun (_ : Unit) => [(hs, .inr (3, [.ref hp, .ref hc])), (hc, .inl (cI, 20, .inl c)), (hp, o2 r ti np nq nd), (r 1, .inl (cI, 5, .inl (fun k_ => nI (P 0 k_)))), (r 2, .inl (cI, 5, .inl (fun k_ => nI (P 1 k_)))), (r 3, .inl (cI, 5, .inl (fun k_ => nI (P 2 k_)))), (r 4, .inl (cI, 5, .inl (fun k_ => nI (P 3 k_)))), (r 5, .inl (cI, 5, .inl (fun k_ => nI (P 4 k_)))), (r 6, .inl (cI, 5, .inl (fun k_ => nI (P 5 k_))))]) 0 0 := by
  refine g_startI (ret := (some .boolean)) (own := RX3) (lv0 := [(0, .ref hs), (1, .int (nI k))]) (by decide) rfl rfl (Nat.le_of_ble_eq_true rfl) rfl ?_
  intro p e s m args below meth cd A Q hin hr hQ hC
  have hcw3 : ∀ w ∈ wsX30, w ∈ wsX3_canRedeem := fun _ h => List.mem_cons_of_mem _ (List.mem_append_left _ (List.mem_append_right _ h))
  have w1 := hC.1.2.2.2.2 (.fieldLink "PluckBroker$State" 15 "PluckBroker$State" "plan" "LPluckBroker$Plan;") (List.mem_of_getElem? (i := 1) rfl)
  obtain ⟨⟨hnp, hnq, hnd⟩, hq4, hd5⟩ := id hW
  have hk5 : k < 5 := by omega
  have ho3 : P 0 k < 3 := by have := (hq4 k hk).1; omega
  refine g_aload_n hC 0 dX3_canRedeem_0 rfl rfl ?_
  refine g_get (C := RX3) (T := TX3) (N := 2) (ci := 3) (v := .ref hp) hC hcw3 0 rfl rfl 0 (by decide) w1 (fun _ h => h) rfl dX3_canRedeem_1 ?_
  refine g_iload_n hC 1 dX3_canRedeem_4 rfl rfl ?_
  refine g_callVip (As := [.int (nI k)]) (rest := []) hC (bI (inR (nI k) nq)) (c_X2_hasQuality l D cI cZ hp r ti np nq nd (nI k) hnq) (cwV 1 hC.1.2.2.2.2 gX3_canRedeem_X2_hasQuality rfl rfl rfl dV_X2_hasQuality ⟨Nat.le_of_ble_eq_true rfl, Nat.le_of_ble_eq_true rfl⟩) rfl rfl rfl rfl (Nat.le_of_ble_eq_true rfl) dX3_canRedeem_5 ⟨Nat.le_of_ble_eq_true rfl, Nat.le_of_ble_eq_true rfl⟩ [2] rfl rfl ?_
  refine g_if_eq_b hC 44 dX3_canRedeem_8 (by decide) (fun h8t => ?_) (fun h8f => ?_)
  · exact absurd (inR_k (by omega) hk) h8t
  refine g_aload_n hC 0 dX3_canRedeem_11 rfl rfl ?_
  refine g_iload_n hC 1 dX3_canRedeem_12 rfl rfl ?_
  refine g_callVip (As := [.int (nI k)]) (rest := []) hC (c (5 + k)) (c_X3_standingOf l D cI cZ hs hp hc c k (by first | assumption | omega)) (cwV 1 hC.1.2.2.2.2 gX3_canRedeem_X3_standingOf rfl rfl rfl dV_X3_standingOf ⟨Nat.le_of_ble_eq_true rfl, Nat.le_of_ble_eq_true rfl⟩) rfl rfl rfl rfl (Nat.le_of_ble_eq_true rfl) dX3_canRedeem_13 ⟨Nat.le_of_ble_eq_true rfl, Nat.le_of_ble_eq_true rfl⟩ [0, 1] rfl rfl ?_
  refine g_iconst (v := nI 1) hC dX3_canRedeem_16 rfl ?_
  refine g_icmp_ne hC 44 dX3_canRedeem_17 (by decide) (fun h17t => ?_) (fun h17f => ?_)
  · refine g_iconst (v := nI 0) hC dX3_canRedeem_44 rfl ?_
    subst hQ
    refine g_zret (v := nI 0) hC () hr (by decide +kernel) ?_ rfl dX3_canRedeem_45
    refine (bI_f (fun q => h17t ?_)).symm
    exact q.1
  refine g_aload_n hC 0 dX3_canRedeem_20 rfl rfl ?_
  refine g_aload_n hC 0 dX3_canRedeem_21 rfl rfl ?_
  refine g_get (C := RX3) (T := TX3) (N := 2) (ci := 3) (v := .ref hp) hC hcw3 0 rfl rfl 0 (by decide) w1 (fun _ h => h) rfl dX3_canRedeem_22 ?_
  refine g_iload_n hC 1 dX3_canRedeem_25 rfl rfl ?_
  refine g_callVip (As := [.int (nI k)]) (rest := [.ref hs]) hC (nI (P 0 k)) (c_X2_ownerOf l D cI cZ hp r ti np nq nd P k (by first | assumption | omega)) (cwV 1 hC.1.2.2.2.2 gX3_canRedeem_X2_ownerOf rfl rfl rfl dV_X2_ownerOf ⟨Nat.le_of_ble_eq_true rfl, Nat.le_of_ble_eq_true rfl⟩) rfl rfl rfl rfl (Nat.le_of_ble_eq_true rfl) dX3_canRedeem_26 ⟨Nat.le_of_ble_eq_true rfl, Nat.le_of_ble_eq_true rfl⟩ [2, 3] rfl rfl ?_
  refine g_callVip (As := [.int (nI (P 0 k))]) (rest := []) hC (c (2 + (P 0 k))) (c_X3_purseOf l D cI cZ hs hp hc c (P 0 k) (by first | assumption | omega)) (cwV 1 hC.1.2.2.2.2 gX3_canRedeem_X3_purseOf rfl rfl rfl dV_X3_purseOf ⟨Nat.le_of_ble_eq_true rfl, Nat.le_of_ble_eq_true rfl⟩) rfl rfl rfl rfl (Nat.le_of_ble_eq_true rfl) dX3_canRedeem_29 ⟨Nat.le_of_ble_eq_true rfl, Nat.le_of_ble_eq_true rfl⟩ [0, 1] rfl rfl ?_
  refine g_aload_n hC 0 dX3_canRedeem_32 rfl rfl ?_
  refine g_iload_n hC 1 dX3_canRedeem_33 rfl rfl ?_
  refine g_callVip (As := [.int (nI k)]) (rest := [.int (c (2 + (P 0 k)))]) hC (owed P c k) (c_X3_owedFor l D cI cZ hs hp hc c r ti np nq nd P k (by first | assumption | omega)) (cwV 1 hC.1.2.2.2.2 gX3_canRedeem_X3_owedFor rfl rfl rfl dV_X3_owedFor ⟨Nat.le_of_ble_eq_true rfl, Nat.le_of_ble_eq_true rfl⟩) rfl rfl rfl rfl (Nat.le_of_ble_eq_true rfl) dX3_canRedeem_34 ⟨Nat.le_of_ble_eq_true rfl, Nat.le_of_ble_eq_true rfl⟩ [0, 1, 2, 3, 4, 5, 6, 7, 8] rfl rfl ?_
  refine g_icmp_lt hC 44 dX3_canRedeem_37 (by decide) (fun h37t => ?_) (fun h37f => ?_)
  · refine g_iconst (v := nI 0) hC dX3_canRedeem_44 rfl ?_
    subst hQ
    refine g_zret (v := nI 0) hC () hr (by decide +kernel) ?_ rfl dX3_canRedeem_45
    exact (bI_f (fun q => absurd q.2 (Int32.not_le.mpr h37t))).symm
  refine g_iconst (v := nI 1) hC dX3_canRedeem_40 rfl ?_
  refine g_goto hC 45 dX3_canRedeem_41 (by decide) ?_
  subst hQ
  refine g_zret (v := nI 1) hC () hr (by decide +kernel) ?_ rfl dX3_canRedeem_45
  exact (bI_t ⟨h17f, Int32.not_lt.mp h37f⟩).symm

abbrev rm_X3_canRedeem_no : Room := { frames := 1, cells := 0, slots := 0, locals := 21 }
set_option maxRecDepth 100000 in
set_option maxHeartbeats 4000000 in
theorem c_X3_canRedeem_no (l : Launch) (D : va_G) (cI cZ : ClassId) (hs : Nat) (hp : Nat) (hc : Nat) (c : Nat → Int32) (r : Nat → Nat) (ti : Int32) (np : Nat) (nq : Nat) (nd : Nat) (P : Nat → Nat → Nat) (a : Int32) (hW : WFP np nq nd P) (ha : ¬ inR a nq) : CtI l yX3_canRedeem wsX3_canRedeem rm_X3_canRedeem_no D cI cZ [.ref hs, .int a] [(hs, .inr (3, [.ref hp, .ref hc])), (hc, .inl (cI, 20, .inl c)), (hp, o2 r ti np nq nd), (r 1, .inl (cI, 5, .inl (fun k_ => nI (P 0 k_)))), (r 2, .inl (cI, 5, .inl (fun k_ => nI (P 1 k_)))), (r 3, .inl (cI, 5, .inl (fun k_ => nI (P 2 k_)))), (r 4, .inl (cI, 5, .inl (fun k_ => nI (P 3 k_)))), (r 5, .inl (cI, 5, .inl (fun k_ => nI (P 4 k_)))), (r 6, .inl (cI, 5, .inl (fun k_ => nI (P 5 k_))))] (fun r (_ : Unit) => r = nI 0) (fun (_ : Unit) => [(hs, .inr (3, [.ref hp, .ref hc])), (hc, .inl (cI, 20, .inl c)), (hp, o2 r ti np nq nd), (r 1, .inl (cI, 5, .inl (fun k_ => nI (P 0 k_)))), (r 2, .inl (cI, 5, .inl (fun k_ => nI (P 1 k_)))), (r 3, .inl (cI, 5, .inl (fun k_ => nI (P 2 k_)))), (r 4, .inl (cI, 5, .inl (fun k_ => nI (P 3 k_)))), (r 5, .inl (cI, 5, .inl (fun k_ => nI (P 4 k_)))), (r 6, .inl (cI, 5, .inl (fun k_ => nI (P 5 k_))))]) 0 0 := by
  refine g_startI (ret := (some .boolean)) (own := RX3) (lv0 := [(0, .ref hs), (1, .int a)]) (by decide) rfl rfl (Nat.le_of_ble_eq_true rfl) rfl ?_
  intro p e s m args below meth cd A Q hin hr hQ hC
  have hcw3 : ∀ w ∈ wsX30, w ∈ wsX3_canRedeem := fun _ h => List.mem_cons_of_mem _ (List.mem_append_left _ (List.mem_append_right _ h))
  have w1 := hC.1.2.2.2.2 (.fieldLink "PluckBroker$State" 15 "PluckBroker$State" "plan" "LPluckBroker$Plan;") (List.mem_of_getElem? (i := 1) rfl)
  obtain ⟨⟨hnp, hnq, hnd⟩, hq4, hd5⟩ := id hW
  refine g_aload_n hC 0 dX3_canRedeem_0 rfl rfl ?_
  refine g_get (C := RX3) (T := TX3) (N := 2) (ci := 3) (v := .ref hp) hC hcw3 0 rfl rfl 0 (by decide) w1 (fun _ h => h) rfl dX3_canRedeem_1 ?_
  refine g_iload_n hC 1 dX3_canRedeem_4 rfl rfl ?_
  refine g_callVip (As := [.int a]) (rest := []) hC (bI (inR a nq)) (c_X2_hasQuality l D cI cZ hp r ti np nq nd a hnq) (cwV 1 hC.1.2.2.2.2 gX3_canRedeem_X2_hasQuality rfl rfl rfl dV_X2_hasQuality ⟨Nat.le_of_ble_eq_true rfl, Nat.le_of_ble_eq_true rfl⟩) rfl rfl rfl rfl (Nat.le_of_ble_eq_true rfl) dX3_canRedeem_5 ⟨Nat.le_of_ble_eq_true rfl, Nat.le_of_ble_eq_true rfl⟩ [2] rfl rfl ?_
  refine g_if_eq_b hC 44 dX3_canRedeem_8 (by decide) (fun h8t => ?_) (fun h8f => ?_)
  · refine g_iconst (v := nI 0) hC dX3_canRedeem_44 rfl ?_
    subst hQ
    refine g_zret (v := nI 0) hC () hr (by decide +kernel) ?_ rfl dX3_canRedeem_45
    rfl
  exact absurd h8f ha

abbrev rm_X3_pay : Room := { frames := 1, cells := 0, slots := 0, locals := 22 }
set_option maxRecDepth 100000 in
set_option maxHeartbeats 4000000 in
theorem c_X3_pay (l : Launch) (D : va_G) (cI cZ : ClassId) (hs : Nat) (hp : Nat) (hc : Nat) (c : Nat → Int32) (k : Nat) (v : Int32) (hk : k < 3) : CtV l yX3_pay wsX3_pay rm_X3_pay D cI cZ [.ref hs, .int (nI k), .int v] [(hs, .inr (3, [.ref hp, .ref hc])), (hc, .inl (cI, 20, .inl c))] (fun (_ : Unit) => True) (fun (_ : Unit) => [(hs, .inr (3, [.ref hp, .ref hc])), (hc, .inl (cI, 20, .inl (payF c k v)))]) 0 0 := by
  refine g_startV (ret := none) (own := RX3) (lv0 := [(0, .ref hs), (1, .int (nI k)), (2, .int v)]) (by decide) rfl rfl (Nat.le_of_ble_eq_true rfl) rfl ?_
  intro p e s m args below meth cd A Q hin hr hQ hC
  have hcw3 : ∀ w ∈ wsX30, w ∈ wsX3_pay := fun _ h => List.mem_cons_of_mem _ (List.mem_append_right _ h)
  have w1 := hC.1.2.2.2.2 (.fieldLink "PluckBroker$State" 11 "PluckBroker$State" "cells" "[I") (List.mem_of_getElem? (i := 1) rfl)
  have w2 := hC.1.2.2.2.2 (.static ⟨"PluckBroker", "cell", "([II)I"⟩) (List.mem_of_getElem? (i := 2) rfl)
  have w3 := hC.1.2.2.2.2 (.initialized "PluckBroker") (List.mem_of_getElem? (i := 3) rfl)
  have w5 := hC.1.2.2.2.2 (.static ⟨"PluckBroker", "put", "([III)V"⟩) (List.mem_of_getElem? (i := 5) rfl)
  refine g_aload_n hC 0 dX3_pay_0 rfl rfl ?_
  refine g_get (C := RX3) (T := TX3) (N := 2) (ci := 3) (v := .ref hc) hC hcw3 0 rfl rfl 1 (by decide) w1 (fun _ h => h) rfl dX3_pay_1 ?_
  refine g_iconst (v := nI 2) hC dX3_pay_4 rfl ?_
  refine g_iload_n hC 1 dX3_pay_5 rfl rfl ?_
  refine g_iadd_n (a := 2) (b := k) hC dX3_pay_6 ?_
  refine g_aload_n hC 0 dX3_pay_7 rfl rfl ?_
  refine g_get (C := RX3) (T := TX3) (N := 2) (ci := 3) (v := .ref hc) hC hcw3 0 rfl rfl 1 (by decide) w1 (fun _ h => h) rfl dX3_pay_8 ?_
  refine g_iconst (v := nI 2) hC dX3_pay_11 rfl ?_
  refine g_iload_n hC 1 dX3_pay_12 rfl rfl ?_
  refine g_iadd_n (a := 2) (b := k) hC dX3_pay_13 ?_
  refine g_callSNip (As := [.ref hc, .int (nI (2 + k))]) (rest := [.int (nI (2 + k)), .ref hc]) hC (c (2 + k)) (c_X5_cell l D cI cZ hc 20 c (2 + k) (by first | assumption | omega) (by first | assumption | omega)) ⟨va_cnB 2 hC.1.2.2.2.2 gX3_pay_X5_cell_n40 rfl rfl rfl (hC.2.2.1.m 9 rfl) w3 dS_X5_cell ⟨Nat.le_of_ble_eq_true rfl, Nat.le_of_ble_eq_true rfl⟩, w2, trivial⟩ rfl rfl (Nat.le_of_ble_eq_true rfl) dX3_pay_14 ⟨Nat.le_of_ble_eq_true rfl, Nat.le_of_ble_eq_true rfl⟩ [1] rfl rfl ?_
  refine g_iload_n hC 2 dX3_pay_17 rfl rfl ?_
  refine g_iadd hC dX3_pay_18 ?_
  refine g_callSNv (As := [.ref hc, .int (nI (2 + k)), .int ((c (2 + k)) + v)]) (rest := []) hC (c_X5_put l D cI cZ hc 20 c (2 + k) ((c (2 + k)) + v) (by first | assumption | omega) (by first | assumption | omega)) ⟨va_cnB 3 hC.1.2.2.2.2 gX3_pay_X5_put_n25 rfl rfl rfl (hC.2.2.1.m 7 rfl) w3 dS_X5_put ⟨Nat.le_of_ble_eq_true rfl, Nat.le_of_ble_eq_true rfl⟩, w5, trivial⟩ rfl rfl (Nat.le_of_ble_eq_true rfl) dX3_pay_19 ⟨Nat.le_of_ble_eq_true rfl, Nat.le_of_ble_eq_true rfl⟩ [1] [0] [0, 1] (fun (_ : Unit) => [(hs, .inr (3, [.ref hp, .ref hc])), (hc, .inl (cI, 20, .inl (upd c (2 + k) ((c (2 + k)) + v))))]) rfl rfl rfl (fun _ => rfl) (fun z19 hp19 => ?_)
  refine g_is (ws2 := [(hs, .inr (3, [.ref hp, .ref hc])), (hc, .inl (cI, 20, .inl (upd c (2 + k) ((c (2 + k)) + v))))]) (lv2 := [(0, .ref hs), (1, .int (nI k)), (2, .int v)]) (st2 := []) rfl rfl rfl ?_
  subst hQ
  refine g_vret hC () hr ?_ rfl dX3_pay_22
  trivial

abbrev rm_X3_tryPledge : Room := { frames := 3, cells := 0, slots := 0, locals := 63 }
set_option maxRecDepth 100000 in
set_option maxHeartbeats 4000000 in
theorem c_X3_tryPledge (l : Launch) (D : va_G) (cI cZ : ClassId) (hs : Nat) (hp : Nat) (hc : Nat) (c : Nat → Int32) (r : Nat → Nat) (ti : Int32) (np : Nat) (nq : Nat) (nd : Nat) (P : Nat → Nat → Nat) (k : Nat) (hW : WFP np nq nd P) (hk : k < nq) : CtI l yX3_tryPledge wsX3_tryPledge rm_X3_tryPledge D cI cZ [.ref hs, .int (nI k)] [(hs, .inr (3, [.ref hp, .ref hc])), (hc, .inl (cI, 20, .inl c)), (hp, o2 r ti np nq nd), (r 1, .inl (cI, 5, .inl (fun k_ => nI (P 0 k_)))), (r 2, .inl (cI, 5, .inl (fun k_ => nI (P 1 k_)))), (r 3, .inl (cI, 5, .inl (fun k_ => nI (P 2 k_)))), (r 4, .inl (cI, 5, .inl (fun k_ => nI (P 3 k_)))), (r 5, .inl (cI, 5, .inl (fun k_ => nI (P 4 k_)))), (r 6, .inl (cI, 5, .inl (fun k_ => nI (P 5 k_))))] (fun r (_ : Unit) => r = bI (canP P c k)) (fun (_ : Unit) => [(hs, .inr (3, [.ref hp, .ref hc])), (hc, .inl (cI, 20, .inl (tryP P c k))), (hp, o2 r ti np nq nd), (r 1, .inl (cI, 5, .inl (fun k_ => nI (P 0 k_)))), (r 2, .inl (cI, 5, .inl (fun k_ => nI (P 1 k_)))), (r 3, .inl (cI, 5, .inl (fun k_ => nI (P 2 k_)))), (r 4, .inl (cI, 5, .inl (fun k_ => nI (P 3 k_)))), (r 5, .inl (cI, 5, .inl (fun k_ => nI (P 4 k_)))), (r 6, .inl (cI, 5, .inl (fun k_ => nI (P 5 k_))))]) 0 0 := by
  refine g_startI (ret := (some .boolean)) (own := RX3) (lv0 := [(0, .ref hs), (1, .int (nI k))]) (by decide) rfl rfl (Nat.le_of_ble_eq_true rfl) rfl ?_
  intro p e s m args below meth cd A Q hin hr hQ hC
  have hcw3 : ∀ w ∈ wsX30, w ∈ wsX3_tryPledge := fun _ h => List.mem_cons_of_mem _ (List.mem_append_left _ (List.mem_append_right _ h))
  have w1 := hC.1.2.2.2.2 (.fieldLink "PluckBroker$State" 15 "PluckBroker$State" "plan" "LPluckBroker$Plan;") (List.mem_of_getElem? (i := 1) rfl)
  have w2 := hC.1.2.2.2.2 (.fieldLink "PluckBroker$State" 11 "PluckBroker$State" "cells" "[I") (List.mem_of_getElem? (i := 2) rfl)
  have w19 := hC.1.2.2.2.2 (.initialized "PluckBroker") (List.mem_of_getElem? (i := 19) rfl)
  have w39 := hC.1.2.2.2.2 (.static ⟨"PluckBroker", "put", "([III)V"⟩) (List.mem_of_getElem? (i := 39) rfl)
  obtain ⟨⟨hnp, hnq, hnd⟩, hq4, hd5⟩ := id hW
  have hk5 : k < 5 := by omega
  have ho3 : P 0 k < 3 := by have := (hq4 k hk).1; omega
  refine g_aload_n hC 0 dX3_tryPledge_0 rfl rfl ?_
  refine g_iload_n hC 1 dX3_tryPledge_1 rfl rfl ?_
  refine g_callVip (As := [.int (nI k)]) (rest := []) hC (bI (canP P c k)) (c_X3_canPledge l D cI cZ hs hp hc c r ti np nq nd P k (by first | assumption | omega) (by first | assumption | omega)) (cwV 1 hC.1.2.2.2.2 gX3_tryPledge_X3_canPledge rfl rfl rfl dV_X3_canPledge ⟨Nat.le_of_ble_eq_true rfl, Nat.le_of_ble_eq_true rfl⟩) rfl rfl rfl rfl (Nat.le_of_ble_eq_true rfl) dX3_tryPledge_2 ⟨Nat.le_of_ble_eq_true rfl, Nat.le_of_ble_eq_true rfl⟩ [0, 1, 2, 3, 4, 5, 6, 7, 8] rfl rfl ?_
  refine g_if_ne_b hC 10 dX3_tryPledge_5 (by decide) (fun h5t => ?_) (fun h5f => ?_)
  · refine g_aload_n hC 0 dX3_tryPledge_10 rfl rfl ?_
    refine g_aload_n hC 0 dX3_tryPledge_11 rfl rfl ?_
    refine g_get (C := RX3) (T := TX3) (N := 2) (ci := 3) (v := .ref hp) hC hcw3 0 rfl rfl 0 (by decide) w1 (fun _ h => h) rfl dX3_tryPledge_12 ?_
    refine g_iload_n hC 1 dX3_tryPledge_15 rfl rfl ?_
    refine g_callVip (As := [.int (nI k)]) (rest := [.ref hs]) hC (nI (P 0 k)) (c_X2_ownerOf l D cI cZ hp r ti np nq nd P k (by first | assumption | omega)) (cwV 1 hC.1.2.2.2.2 gX3_tryPledge_X2_ownerOf rfl rfl rfl dV_X2_ownerOf ⟨Nat.le_of_ble_eq_true rfl, Nat.le_of_ble_eq_true rfl⟩) rfl rfl rfl rfl (Nat.le_of_ble_eq_true rfl) dX3_tryPledge_16 ⟨Nat.le_of_ble_eq_true rfl, Nat.le_of_ble_eq_true rfl⟩ [2, 3] rfl rfl ?_
    refine g_aload_n hC 0 dX3_tryPledge_19 rfl rfl ?_
    refine g_get (C := RX3) (T := TX3) (N := 2) (ci := 3) (v := .ref hp) hC hcw3 0 rfl rfl 0 (by decide) w1 (fun _ h => h) rfl dX3_tryPledge_20 ?_
    refine g_iload_n hC 1 dX3_tryPledge_23 rfl rfl ?_
    refine g_callVip (As := [.int (nI k)]) (rest := [.int (nI (P 0 k)), .ref hs]) hC (nI (P 1 k)) (c_X2_worthOf l D cI cZ hp r ti np nq nd P k (by first | assumption | omega)) (cwV 1 hC.1.2.2.2.2 gX3_tryPledge_X2_worthOf rfl rfl rfl dV_X2_worthOf ⟨Nat.le_of_ble_eq_true rfl, Nat.le_of_ble_eq_true rfl⟩) rfl rfl rfl rfl (Nat.le_of_ble_eq_true rfl) dX3_tryPledge_24 ⟨Nat.le_of_ble_eq_true rfl, Nat.le_of_ble_eq_true rfl⟩ [2, 4] rfl rfl ?_
    refine g_callVv (As := [.int (nI (P 0 k)), .int (nI (P 1 k))]) (rest := []) hC (c_X3_pay l D cI cZ hs hp hc c (P 0 k) (nI (P 1 k)) (by first | assumption | omega)) (cwV 2 hC.1.2.2.2.2 gX3_tryPledge_X3_pay rfl rfl rfl dV_X3_pay ⟨Nat.le_of_ble_eq_true rfl, Nat.le_of_ble_eq_true rfl⟩) rfl rfl rfl rfl (Nat.le_of_ble_eq_true rfl) dX3_tryPledge_27 ⟨Nat.le_of_ble_eq_true rfl, Nat.le_of_ble_eq_true rfl⟩ [0, 1] [2, 3, 4, 5, 6, 7, 8] [7, 8, 0, 1, 2, 3, 4, 5, 6] (fun (_ : Unit) => [(hs, .inr (3, [.ref hp, .ref hc])), (hc, .inl (cI, 20, .inl (payF c (P 0 k) (nI (P 1 k))))), (hp, o2 r ti np nq nd), (r 1, .inl (cI, 5, .inl (fun k_ => nI (P 0 k_)))), (r 2, .inl (cI, 5, .inl (fun k_ => nI (P 1 k_)))), (r 3, .inl (cI, 5, .inl (fun k_ => nI (P 2 k_)))), (r 4, .inl (cI, 5, .inl (fun k_ => nI (P 3 k_)))), (r 5, .inl (cI, 5, .inl (fun k_ => nI (P 4 k_)))), (r 6, .inl (cI, 5, .inl (fun k_ => nI (P 5 k_))))]) rfl rfl rfl (fun _ => rfl) (fun z27 hp27 => ?_)
    refine g_is (ws2 := [(hs, .inr (3, [.ref hp, .ref hc])), (hc, .inl (cI, 20, .inl (payF c (P 0 k) (nI (P 1 k))))), (hp, o2 r ti np nq nd), (r 1, .inl (cI, 5, .inl (fun k_ => nI (P 0 k_)))), (r 2, .inl (cI, 5, .inl (fun k_ => nI (P 1 k_)))), (r 3, .inl (cI, 5, .inl (fun k_ => nI (P 2 k_)))), (r 4, .inl (cI, 5, .inl (fun k_ => nI (P 3 k_)))), (r 5, .inl (cI, 5, .inl (fun k_ => nI (P 4 k_)))), (r 6, .inl (cI, 5, .inl (fun k_ => nI (P 5 k_))))]) (lv2 := [(0, .ref hs), (1, .int (nI k))]) (st2 := []) rfl rfl rfl ?_
    refine g_aload_n hC 0 dX3_tryPledge_30 rfl rfl ?_
    refine g_get (C := RX3) (T := TX3) (N := 2) (ci := 3) (v := .ref hc) hC hcw3 0 rfl rfl 1 (by decide) w2 (fun _ h => h) rfl dX3_tryPledge_31 ?_
    refine g_iconst (v := nI 0) hC dX3_tryPledge_34 rfl ?_
    refine g_aload_n hC 0 dX3_tryPledge_35 rfl rfl ?_
    refine g_callVip (As := []) (rest := [.int (nI 0), .ref hc]) hC ((payF c (P 0 k) (nI (P 1 k))) 0) (c_X3_inTill l D cI cZ hs hp hc (payF c (P 0 k) (nI (P 1 k)))) (cwV 0 hC.1.2.2.2.2 gX3_tryPledge_X3_inTill rfl rfl rfl dV_X3_inTill ⟨Nat.le_of_ble_eq_true rfl, Nat.le_of_ble_eq_true rfl⟩) rfl rfl rfl rfl (Nat.le_of_ble_eq_true rfl) dX3_tryPledge_36 ⟨Nat.le_of_ble_eq_true rfl, Nat.le_of_ble_eq_true rfl⟩ [0, 1] rfl rfl ?_
    refine g_top (y := c 0) (payF_ne _ _ (by omega)) ?_
    refine g_aload_n hC 0 dX3_tryPledge_39 rfl rfl ?_
    refine g_get (C := RX3) (T := TX3) (N := 2) (ci := 3) (v := .ref hp) hC hcw3 0 rfl rfl 0 (by decide) w1 (fun _ h => h) rfl dX3_tryPledge_40 ?_
    refine g_iload_n hC 1 dX3_tryPledge_43 rfl rfl ?_
    refine g_callVip (As := [.int (nI k)]) (rest := [.int (c 0), .int (nI 0), .ref hc]) hC (nI (P 1 k)) (c_X2_worthOf l D cI cZ hp r ti np nq nd P k (by first | assumption | omega)) (cwV 1 hC.1.2.2.2.2 gX3_tryPledge_X2_worthOf rfl rfl rfl dV_X2_worthOf ⟨Nat.le_of_ble_eq_true rfl, Nat.le_of_ble_eq_true rfl⟩) rfl rfl rfl rfl (Nat.le_of_ble_eq_true rfl) dX3_tryPledge_44 ⟨Nat.le_of_ble_eq_true rfl, Nat.le_of_ble_eq_true rfl⟩ [2, 4] rfl rfl ?_
    refine g_isub hC dX3_tryPledge_47 ?_
    refine g_callSNv (As := [.ref hc, .int (nI 0), .int ((c 0) - (nI (P 1 k)))]) (rest := []) hC (c_X5_put l D cI cZ hc 20 (payF c (P 0 k) (nI (P 1 k))) 0 ((c 0) - (nI (P 1 k))) (by first | assumption | omega) (by first | assumption | omega)) ⟨va_cnB 3 hC.1.2.2.2.2 gX3_tryPledge_X5_put_n25 rfl rfl rfl (hC.2.2.1.m 7 rfl) w19 dS_X5_put ⟨Nat.le_of_ble_eq_true rfl, Nat.le_of_ble_eq_true rfl⟩, w39, trivial⟩ rfl rfl (Nat.le_of_ble_eq_true rfl) dX3_tryPledge_48 ⟨Nat.le_of_ble_eq_true rfl, Nat.le_of_ble_eq_true rfl⟩ [1] [0, 2, 3, 4, 5, 6, 7, 8] [0, 8, 1, 2, 3, 4, 5, 6, 7] (fun (_ : Unit) => [(hs, .inr (3, [.ref hp, .ref hc])), (hc, .inl (cI, 20, .inl (upd (payF c (P 0 k) (nI (P 1 k))) 0 ((c 0) - (nI (P 1 k)))))), (hp, o2 r ti np nq nd), (r 1, .inl (cI, 5, .inl (fun k_ => nI (P 0 k_)))), (r 2, .inl (cI, 5, .inl (fun k_ => nI (P 1 k_)))), (r 3, .inl (cI, 5, .inl (fun k_ => nI (P 2 k_)))), (r 4, .inl (cI, 5, .inl (fun k_ => nI (P 3 k_)))), (r 5, .inl (cI, 5, .inl (fun k_ => nI (P 4 k_)))), (r 6, .inl (cI, 5, .inl (fun k_ => nI (P 5 k_))))]) rfl rfl rfl (fun _ => rfl) (fun z48 hp48 => ?_)
    refine g_is (ws2 := [(hs, .inr (3, [.ref hp, .ref hc])), (hc, .inl (cI, 20, .inl (upd (payF c (P 0 k) (nI (P 1 k))) 0 ((c 0) - (nI (P 1 k)))))), (hp, o2 r ti np nq nd), (r 1, .inl (cI, 5, .inl (fun k_ => nI (P 0 k_)))), (r 2, .inl (cI, 5, .inl (fun k_ => nI (P 1 k_)))), (r 3, .inl (cI, 5, .inl (fun k_ => nI (P 2 k_)))), (r 4, .inl (cI, 5, .inl (fun k_ => nI (P 3 k_)))), (r 5, .inl (cI, 5, .inl (fun k_ => nI (P 4 k_)))), (r 6, .inl (cI, 5, .inl (fun k_ => nI (P 5 k_))))]) (lv2 := [(0, .ref hs), (1, .int (nI k))]) (st2 := []) rfl rfl rfl ?_
    refine g_aload_n hC 0 dX3_tryPledge_51 rfl rfl ?_
    refine g_get (C := RX3) (T := TX3) (N := 2) (ci := 3) (v := .ref hc) hC hcw3 0 rfl rfl 1 (by decide) w2 (fun _ h => h) rfl dX3_tryPledge_52 ?_
    refine g_iconst (v := nI 5) hC dX3_tryPledge_55 rfl ?_
    refine g_iload_n hC 1 dX3_tryPledge_56 rfl rfl ?_
    refine g_iadd_n (a := 5) (b := k) hC dX3_tryPledge_57 ?_
    refine g_iconst (v := nI 1) hC dX3_tryPledge_58 rfl ?_
    refine g_callSNv (As := [.ref hc, .int (nI (5 + k)), .int (nI 1)]) (rest := []) hC (c_X5_put l D cI cZ hc 20 (upd (payF c (P 0 k) (nI (P 1 k))) 0 ((c 0) - (nI (P 1 k)))) (5 + k) (nI 1) (by first | assumption | omega) (by first | assumption | omega)) ⟨va_cnB 3 hC.1.2.2.2.2 gX3_tryPledge_X5_put_n25 rfl rfl rfl (hC.2.2.1.m 7 rfl) w19 dS_X5_put ⟨Nat.le_of_ble_eq_true rfl, Nat.le_of_ble_eq_true rfl⟩, w39, trivial⟩ rfl rfl (Nat.le_of_ble_eq_true rfl) dX3_tryPledge_59 ⟨Nat.le_of_ble_eq_true rfl, Nat.le_of_ble_eq_true rfl⟩ [1] [0, 2, 3, 4, 5, 6, 7, 8] [0, 8, 1, 2, 3, 4, 5, 6, 7] (fun (_ : Unit) => [(hs, .inr (3, [.ref hp, .ref hc])), (hc, .inl (cI, 20, .inl (upd (upd (payF c (P 0 k) (nI (P 1 k))) 0 ((c 0) - (nI (P 1 k)))) (5 + k) (nI 1)))), (hp, o2 r ti np nq nd), (r 1, .inl (cI, 5, .inl (fun k_ => nI (P 0 k_)))), (r 2, .inl (cI, 5, .inl (fun k_ => nI (P 1 k_)))), (r 3, .inl (cI, 5, .inl (fun k_ => nI (P 2 k_)))), (r 4, .inl (cI, 5, .inl (fun k_ => nI (P 3 k_)))), (r 5, .inl (cI, 5, .inl (fun k_ => nI (P 4 k_)))), (r 6, .inl (cI, 5, .inl (fun k_ => nI (P 5 k_))))]) rfl rfl rfl (fun _ => rfl) (fun z59 hp59 => ?_)
    refine g_is (ws2 := [(hs, .inr (3, [.ref hp, .ref hc])), (hc, .inl (cI, 20, .inl (upd (upd (payF c (P 0 k) (nI (P 1 k))) 0 ((c 0) - (nI (P 1 k)))) (5 + k) (nI 1)))), (hp, o2 r ti np nq nd), (r 1, .inl (cI, 5, .inl (fun k_ => nI (P 0 k_)))), (r 2, .inl (cI, 5, .inl (fun k_ => nI (P 1 k_)))), (r 3, .inl (cI, 5, .inl (fun k_ => nI (P 2 k_)))), (r 4, .inl (cI, 5, .inl (fun k_ => nI (P 3 k_)))), (r 5, .inl (cI, 5, .inl (fun k_ => nI (P 4 k_)))), (r 6, .inl (cI, 5, .inl (fun k_ => nI (P 5 k_))))]) (lv2 := [(0, .ref hs), (1, .int (nI k))]) (st2 := []) rfl rfl rfl ?_
    refine g_aload_n hC 0 dX3_tryPledge_62 rfl rfl ?_
    refine g_get (C := RX3) (T := TX3) (N := 2) (ci := 3) (v := .ref hc) hC hcw3 0 rfl rfl 1 (by decide) w2 (fun _ h => h) rfl dX3_tryPledge_63 ?_
    refine g_bipush (v := nI 10) hC dX3_tryPledge_66 (by decide +kernel) ?_
    refine g_iload_n hC 1 dX3_tryPledge_68 rfl rfl ?_
    refine g_iadd_n (a := 10) (b := k) hC dX3_tryPledge_69 ?_
    refine g_aload_n hC 0 dX3_tryPledge_70 rfl rfl ?_
    refine g_callVip (As := []) (rest := [.int (nI (10 + k)), .ref hc]) hC ((upd (upd (payF c (P 0 k) (nI (P 1 k))) 0 ((c 0) - (nI (P 1 k)))) (5 + k) (nI 1)) 1) (c_X3_today l D cI cZ hs hp hc (upd (upd (payF c (P 0 k) (nI (P 1 k))) 0 ((c 0) - (nI (P 1 k)))) (5 + k) (nI 1))) (cwV 0 hC.1.2.2.2.2 gX3_tryPledge_X3_today rfl rfl rfl dV_X3_today ⟨Nat.le_of_ble_eq_true rfl, Nat.le_of_ble_eq_true rfl⟩) rfl rfl rfl rfl (Nat.le_of_ble_eq_true rfl) dX3_tryPledge_71 ⟨Nat.le_of_ble_eq_true rfl, Nat.le_of_ble_eq_true rfl⟩ [0, 1] rfl rfl ?_
    refine g_top (y := c 1) (by rw [upd_ne _ _ (by omega), upd_ne _ _ (by omega), payF_ne _ _ (by omega)]) ?_
    refine g_callSNv (As := [.ref hc, .int (nI (10 + k)), .int (c 1)]) (rest := []) hC (c_X5_put l D cI cZ hc 20 (upd (upd (payF c (P 0 k) (nI (P 1 k))) 0 ((c 0) - (nI (P 1 k)))) (5 + k) (nI 1)) (10 + k) (c 1) (by first | assumption | omega) (by first | assumption | omega)) ⟨va_cnB 3 hC.1.2.2.2.2 gX3_tryPledge_X5_put_n25 rfl rfl rfl (hC.2.2.1.m 7 rfl) w19 dS_X5_put ⟨Nat.le_of_ble_eq_true rfl, Nat.le_of_ble_eq_true rfl⟩, w39, trivial⟩ rfl rfl (Nat.le_of_ble_eq_true rfl) dX3_tryPledge_74 ⟨Nat.le_of_ble_eq_true rfl, Nat.le_of_ble_eq_true rfl⟩ [1] [0, 2, 3, 4, 5, 6, 7, 8] [0, 8, 1, 2, 3, 4, 5, 6, 7] (fun (_ : Unit) => [(hs, .inr (3, [.ref hp, .ref hc])), (hc, .inl (cI, 20, .inl (upd (upd (upd (payF c (P 0 k) (nI (P 1 k))) 0 ((c 0) - (nI (P 1 k)))) (5 + k) (nI 1)) (10 + k) (c 1)))), (hp, o2 r ti np nq nd), (r 1, .inl (cI, 5, .inl (fun k_ => nI (P 0 k_)))), (r 2, .inl (cI, 5, .inl (fun k_ => nI (P 1 k_)))), (r 3, .inl (cI, 5, .inl (fun k_ => nI (P 2 k_)))), (r 4, .inl (cI, 5, .inl (fun k_ => nI (P 3 k_)))), (r 5, .inl (cI, 5, .inl (fun k_ => nI (P 4 k_)))), (r 6, .inl (cI, 5, .inl (fun k_ => nI (P 5 k_))))]) rfl rfl rfl (fun _ => rfl) (fun z74 hp74 => ?_)
    refine g_is (ws2 := [(hs, .inr (3, [.ref hp, .ref hc])), (hc, .inl (cI, 20, .inl (upd (upd (upd (payF c (P 0 k) (nI (P 1 k))) 0 ((c 0) - (nI (P 1 k)))) (5 + k) (nI 1)) (10 + k) (c 1)))), (hp, o2 r ti np nq nd), (r 1, .inl (cI, 5, .inl (fun k_ => nI (P 0 k_)))), (r 2, .inl (cI, 5, .inl (fun k_ => nI (P 1 k_)))), (r 3, .inl (cI, 5, .inl (fun k_ => nI (P 2 k_)))), (r 4, .inl (cI, 5, .inl (fun k_ => nI (P 3 k_)))), (r 5, .inl (cI, 5, .inl (fun k_ => nI (P 4 k_)))), (r 6, .inl (cI, 5, .inl (fun k_ => nI (P 5 k_))))]) (lv2 := [(0, .ref hs), (1, .int (nI k))]) (st2 := []) rfl rfl rfl ?_
    have ecell : (upd (upd (upd (payF c (P 0 k) (nI (P 1 k))) 0 ((c 0) - (nI (P 1 k)))) (5 + k) (nI 1)) (10 + k) (c 1)) = (tryP P c k) := by rw [tryP, if_pos h5t]; rfl
    refine g_ws (ws2 := [(hs, .inr (3, [.ref hp, .ref hc])), (hc, .inl (cI, 20, .inl (tryP P c k))), (hp, o2 r ti np nq nd), (r 1, .inl (cI, 5, .inl (fun k_ => nI (P 0 k_)))), (r 2, .inl (cI, 5, .inl (fun k_ => nI (P 1 k_)))), (r 3, .inl (cI, 5, .inl (fun k_ => nI (P 2 k_)))), (r 4, .inl (cI, 5, .inl (fun k_ => nI (P 3 k_)))), (r 5, .inl (cI, 5, .inl (fun k_ => nI (P 4 k_)))), (r 6, .inl (cI, 5, .inl (fun k_ => nI (P 5 k_))))]) (congrArg (fun zz : Nat → Int32 => ([(hs, .inr (3, [.ref hp, .ref hc])), (hc, .inl (cI, 20, .inl zz)), (hp, o2 r ti np nq nd), (r 1, .inl (cI, 5, .inl (fun k_ => nI (P 0 k_)))), (r 2, .inl (cI, 5, .inl (fun k_ => nI (P 1 k_)))), (r 3, .inl (cI, 5, .inl (fun k_ => nI (P 2 k_)))), (r 4, .inl (cI, 5, .inl (fun k_ => nI (P 3 k_)))), (r 5, .inl (cI, 5, .inl (fun k_ => nI (P 4 k_)))), (r 6, .inl (cI, 5, .inl (fun k_ => nI (P 5 k_))))] : va_W)) ecell) ?_
    refine g_iconst (v := nI 1) hC dX3_tryPledge_77 rfl ?_
    subst hQ
    refine g_zret (v := nI 1) hC () hr (by decide +kernel) ?_ rfl dX3_tryPledge_78
    exact (bI_t h5t).symm
  have ecell : c = (tryP P c k) := by rw [tryP, if_neg h5f]
  refine g_ws (ws2 := [(hs, .inr (3, [.ref hp, .ref hc])), (hc, .inl (cI, 20, .inl (tryP P c k))), (hp, o2 r ti np nq nd), (r 1, .inl (cI, 5, .inl (fun k_ => nI (P 0 k_)))), (r 2, .inl (cI, 5, .inl (fun k_ => nI (P 1 k_)))), (r 3, .inl (cI, 5, .inl (fun k_ => nI (P 2 k_)))), (r 4, .inl (cI, 5, .inl (fun k_ => nI (P 3 k_)))), (r 5, .inl (cI, 5, .inl (fun k_ => nI (P 4 k_)))), (r 6, .inl (cI, 5, .inl (fun k_ => nI (P 5 k_))))]) (congrArg (fun zz : Nat → Int32 => ([(hs, .inr (3, [.ref hp, .ref hc])), (hc, .inl (cI, 20, .inl zz)), (hp, o2 r ti np nq nd), (r 1, .inl (cI, 5, .inl (fun k_ => nI (P 0 k_)))), (r 2, .inl (cI, 5, .inl (fun k_ => nI (P 1 k_)))), (r 3, .inl (cI, 5, .inl (fun k_ => nI (P 2 k_)))), (r 4, .inl (cI, 5, .inl (fun k_ => nI (P 3 k_)))), (r 5, .inl (cI, 5, .inl (fun k_ => nI (P 4 k_)))), (r 6, .inl (cI, 5, .inl (fun k_ => nI (P 5 k_))))] : va_W)) ecell) ?_
  refine g_iconst (v := nI 0) hC dX3_tryPledge_8 rfl ?_
  subst hQ
  refine g_zret (v := nI 0) hC () hr (by decide +kernel) ?_ rfl dX3_tryPledge_9
  exact (bI_f h5f).symm

abbrev rm_X3_tryPledge_no : Room := { frames := 2, cells := 0, slots := 0, locals := 42 }
set_option maxRecDepth 100000 in
set_option maxHeartbeats 4000000 in
theorem c_X3_tryPledge_no (l : Launch) (D : va_G) (cI cZ : ClassId) (hs : Nat) (hp : Nat) (hc : Nat) (c : Nat → Int32) (r : Nat → Nat) (ti : Int32) (np : Nat) (nq : Nat) (nd : Nat) (P : Nat → Nat → Nat) (a : Int32) (hW : WFP np nq nd P) (ha : ¬ inR a nq) : CtI l yX3_tryPledge wsX3_tryPledge rm_X3_tryPledge_no D cI cZ [.ref hs, .int a] [(hs, .inr (3, [.ref hp, .ref hc])), (hc, .inl (cI, 20, .inl c)), (hp, o2 r ti np nq nd), (r 1, .inl (cI, 5, .inl (fun k_ => nI (P 0 k_)))), (r 2, .inl (cI, 5, .inl (fun k_ => nI (P 1 k_)))), (r 3, .inl (cI, 5, .inl (fun k_ => nI (P 2 k_)))), (r 4, .inl (cI, 5, .inl (fun k_ => nI (P 3 k_)))), (r 5, .inl (cI, 5, .inl (fun k_ => nI (P 4 k_)))), (r 6, .inl (cI, 5, .inl (fun k_ => nI (P 5 k_))))] (fun r (_ : Unit) => r = nI 0) (fun (_ : Unit) => [(hs, .inr (3, [.ref hp, .ref hc])), (hc, .inl (cI, 20, .inl c)), (hp, o2 r ti np nq nd), (r 1, .inl (cI, 5, .inl (fun k_ => nI (P 0 k_)))), (r 2, .inl (cI, 5, .inl (fun k_ => nI (P 1 k_)))), (r 3, .inl (cI, 5, .inl (fun k_ => nI (P 2 k_)))), (r 4, .inl (cI, 5, .inl (fun k_ => nI (P 3 k_)))), (r 5, .inl (cI, 5, .inl (fun k_ => nI (P 4 k_)))), (r 6, .inl (cI, 5, .inl (fun k_ => nI (P 5 k_))))]) 0 0 := by
  refine g_startI (ret := (some .boolean)) (own := RX3) (lv0 := [(0, .ref hs), (1, .int a)]) (by decide) rfl rfl (Nat.le_of_ble_eq_true rfl) rfl ?_
  intro p e s m args below meth cd A Q hin hr hQ hC
  refine g_aload_n hC 0 dX3_tryPledge_0 rfl rfl ?_
  refine g_iload_n hC 1 dX3_tryPledge_1 rfl rfl ?_
  refine g_callVip (As := [.int a]) (rest := []) hC (nI 0) (c_X3_canPledge_no l D cI cZ hs hp hc c r ti np nq nd P a (by first | assumption | omega) (by first | assumption | omega)) (cwV 1 hC.1.2.2.2.2 gX3_tryPledge_X3_canPledge rfl rfl rfl dV_X3_canPledge ⟨Nat.le_of_ble_eq_true rfl, Nat.le_of_ble_eq_true rfl⟩) rfl rfl rfl rfl (Nat.le_of_ble_eq_true rfl) dX3_tryPledge_2 ⟨Nat.le_of_ble_eq_true rfl, Nat.le_of_ble_eq_true rfl⟩ [0, 1, 2, 3, 4, 5, 6, 7, 8] rfl rfl ?_
  refine g_if_ne_n (a := 0) hC (by omega) 10 dX3_tryPledge_5 (by decide) (fun q => absurd q (by decide)) (fun _ => ?_)
  refine g_iconst (v := nI 0) hC dX3_tryPledge_8 rfl ?_
  subst hQ
  refine g_zret (v := nI 0) hC () hr (by decide +kernel) ?_ rfl dX3_tryPledge_9
  rfl

abbrev rm_X3_tryRedeem : Room := { frames := 4, cells := 0, slots := 0, locals := 84 }
set_option maxRecDepth 100000 in
set_option maxHeartbeats 4000000 in
theorem c_X3_tryRedeem (l : Launch) (D : va_G) (cI cZ : ClassId) (hs : Nat) (hp : Nat) (hc : Nat) (c : Nat → Int32) (r : Nat → Nat) (ti : Int32) (np : Nat) (nq : Nat) (nd : Nat) (P : Nat → Nat → Nat) (k : Nat) (hW : WFP np nq nd P) (hk : k < nq) : CtI l yX3_tryRedeem wsX3_tryRedeem rm_X3_tryRedeem D cI cZ [.ref hs, .int (nI k)] [(hs, .inr (3, [.ref hp, .ref hc])), (hc, .inl (cI, 20, .inl c)), (hp, o2 r ti np nq nd), (r 1, .inl (cI, 5, .inl (fun k_ => nI (P 0 k_)))), (r 2, .inl (cI, 5, .inl (fun k_ => nI (P 1 k_)))), (r 3, .inl (cI, 5, .inl (fun k_ => nI (P 2 k_)))), (r 4, .inl (cI, 5, .inl (fun k_ => nI (P 3 k_)))), (r 5, .inl (cI, 5, .inl (fun k_ => nI (P 4 k_)))), (r 6, .inl (cI, 5, .inl (fun k_ => nI (P 5 k_))))] (fun r (_ : Unit) => r = bI (canR P c k)) (fun (_ : Unit) => [(hs, .inr (3, [.ref hp, .ref hc])), (hc, .inl (cI, 20, .inl (tryR P c k))), (hp, o2 r ti np nq nd), (r 1, .inl (cI, 5, .inl (fun k_ => nI (P 0 k_)))), (r 2, .inl (cI, 5, .inl (fun k_ => nI (P 1 k_)))), (r 3, .inl (cI, 5, .inl (fun k_ => nI (P 2 k_)))), (r 4, .inl (cI, 5, .inl (fun k_ => nI (P 3 k_)))), (r 5, .inl (cI, 5, .inl (fun k_ => nI (P 4 k_)))), (r 6, .inl (cI, 5, .inl (fun k_ => nI (P 5 k_))))]) 0 0 := by
  refine g_startI (ret := (some .boolean)) (own := RX3) (lv0 := [(0, .ref hs), (1, .int (nI k))]) (by decide) rfl rfl (Nat.le_of_ble_eq_true rfl) rfl ?_
  intro p e s m args below meth cd A Q hin hr hQ hC
  have hcw3 : ∀ w ∈ wsX30, w ∈ wsX3_tryRedeem := fun _ h => List.mem_cons_of_mem _ (List.mem_append_left _ (List.mem_append_right _ h))
  have w1 := hC.1.2.2.2.2 (.fieldLink "PluckBroker$State" 15 "PluckBroker$State" "plan" "LPluckBroker$Plan;") (List.mem_of_getElem? (i := 1) rfl)
  have w2 := hC.1.2.2.2.2 (.fieldLink "PluckBroker$State" 11 "PluckBroker$State" "cells" "[I") (List.mem_of_getElem? (i := 2) rfl)
  have w19 := hC.1.2.2.2.2 (.initialized "PluckBroker") (List.mem_of_getElem? (i := 19) rfl)
  have w58 := hC.1.2.2.2.2 (.static ⟨"PluckBroker", "put", "([III)V"⟩) (List.mem_of_getElem? (i := 58) rfl)
  obtain ⟨⟨hnp, hnq, hnd⟩, hq4, hd5⟩ := id hW
  have hk5 : k < 5 := by omega
  have ho3 : P 0 k < 3 := by have := (hq4 k hk).1; omega
  refine g_aload_n hC 0 dX3_tryRedeem_0 rfl rfl ?_
  refine g_iload_n hC 1 dX3_tryRedeem_1 rfl rfl ?_
  refine g_callVip (As := [.int (nI k)]) (rest := []) hC (bI (canR P c k)) (c_X3_canRedeem l D cI cZ hs hp hc c r ti np nq nd P k (by first | assumption | omega) (by first | assumption | omega)) (cwV 1 hC.1.2.2.2.2 gX3_tryRedeem_X3_canRedeem rfl rfl rfl dV_X3_canRedeem ⟨Nat.le_of_ble_eq_true rfl, Nat.le_of_ble_eq_true rfl⟩) rfl rfl rfl rfl (Nat.le_of_ble_eq_true rfl) dX3_tryRedeem_2 ⟨Nat.le_of_ble_eq_true rfl, Nat.le_of_ble_eq_true rfl⟩ [0, 1, 2, 3, 4, 5, 6, 7, 8] rfl rfl ?_
  refine g_if_ne_b hC 10 dX3_tryRedeem_5 (by decide) (fun h5t => ?_) (fun h5f => ?_)
  · refine g_aload_n hC 0 dX3_tryRedeem_10 rfl rfl ?_
    refine g_iload_n hC 1 dX3_tryRedeem_11 rfl rfl ?_
    refine g_callVip (As := [.int (nI k)]) (rest := []) hC (owed P c k) (c_X3_owedFor l D cI cZ hs hp hc c r ti np nq nd P k (by first | assumption | omega)) (cwV 1 hC.1.2.2.2.2 gX3_tryRedeem_X3_owedFor rfl rfl rfl dV_X3_owedFor ⟨Nat.le_of_ble_eq_true rfl, Nat.le_of_ble_eq_true rfl⟩) rfl rfl rfl rfl (Nat.le_of_ble_eq_true rfl) dX3_tryRedeem_12 ⟨Nat.le_of_ble_eq_true rfl, Nat.le_of_ble_eq_true rfl⟩ [0, 1, 2, 3, 4, 5, 6, 7, 8] rfl rfl ?_
    refine g_istore_n (lv' := [(0, .ref hs), (1, .int (nI k)), (2, .int (owed P c k))]) hC [1, 2, 0] dX3_tryRedeem_15 rfl (by decide) rfl ?_
    refine g_aload_n hC 0 dX3_tryRedeem_16 rfl rfl ?_
    refine g_aload_n hC 0 dX3_tryRedeem_17 rfl rfl ?_
    refine g_get (C := RX3) (T := TX3) (N := 2) (ci := 3) (v := .ref hp) hC hcw3 0 rfl rfl 0 (by decide) w1 (fun _ h => h) rfl dX3_tryRedeem_18 ?_
    refine g_iload_n hC 1 dX3_tryRedeem_21 rfl rfl ?_
    refine g_callVip (As := [.int (nI k)]) (rest := [.ref hs]) hC (nI (P 0 k)) (c_X2_ownerOf l D cI cZ hp r ti np nq nd P k (by first | assumption | omega)) (cwV 1 hC.1.2.2.2.2 gX3_tryRedeem_X2_ownerOf rfl rfl rfl dV_X2_ownerOf ⟨Nat.le_of_ble_eq_true rfl, Nat.le_of_ble_eq_true rfl⟩) rfl rfl rfl rfl (Nat.le_of_ble_eq_true rfl) dX3_tryRedeem_22 ⟨Nat.le_of_ble_eq_true rfl, Nat.le_of_ble_eq_true rfl⟩ [2, 3] rfl rfl ?_
    refine g_iload_n hC 2 dX3_tryRedeem_25 rfl rfl ?_
    refine g_ineg hC dX3_tryRedeem_26 ?_
    refine g_callVv (As := [.int (nI (P 0 k)), .int (-(owed P c k))]) (rest := []) hC (c_X3_pay l D cI cZ hs hp hc c (P 0 k) (-(owed P c k)) (by first | assumption | omega)) (cwV 2 hC.1.2.2.2.2 gX3_tryRedeem_X3_pay rfl rfl rfl dV_X3_pay ⟨Nat.le_of_ble_eq_true rfl, Nat.le_of_ble_eq_true rfl⟩) rfl rfl rfl rfl (Nat.le_of_ble_eq_true rfl) dX3_tryRedeem_27 ⟨Nat.le_of_ble_eq_true rfl, Nat.le_of_ble_eq_true rfl⟩ [0, 1] [2, 3, 4, 5, 6, 7, 8] [7, 8, 0, 1, 2, 3, 4, 5, 6] (fun (_ : Unit) => [(hs, .inr (3, [.ref hp, .ref hc])), (hc, .inl (cI, 20, .inl (payF c (P 0 k) (-(owed P c k))))), (hp, o2 r ti np nq nd), (r 1, .inl (cI, 5, .inl (fun k_ => nI (P 0 k_)))), (r 2, .inl (cI, 5, .inl (fun k_ => nI (P 1 k_)))), (r 3, .inl (cI, 5, .inl (fun k_ => nI (P 2 k_)))), (r 4, .inl (cI, 5, .inl (fun k_ => nI (P 3 k_)))), (r 5, .inl (cI, 5, .inl (fun k_ => nI (P 4 k_)))), (r 6, .inl (cI, 5, .inl (fun k_ => nI (P 5 k_))))]) rfl rfl rfl (fun _ => rfl) (fun z27 hp27 => ?_)
    refine g_is (ws2 := [(hs, .inr (3, [.ref hp, .ref hc])), (hc, .inl (cI, 20, .inl (payF c (P 0 k) (-(owed P c k))))), (hp, o2 r ti np nq nd), (r 1, .inl (cI, 5, .inl (fun k_ => nI (P 0 k_)))), (r 2, .inl (cI, 5, .inl (fun k_ => nI (P 1 k_)))), (r 3, .inl (cI, 5, .inl (fun k_ => nI (P 2 k_)))), (r 4, .inl (cI, 5, .inl (fun k_ => nI (P 3 k_)))), (r 5, .inl (cI, 5, .inl (fun k_ => nI (P 4 k_)))), (r 6, .inl (cI, 5, .inl (fun k_ => nI (P 5 k_))))]) (lv2 := [(0, .ref hs), (1, .int (nI k)), (2, .int (owed P c k))]) (st2 := []) rfl rfl rfl ?_
    refine g_aload_n hC 0 dX3_tryRedeem_30 rfl rfl ?_
    refine g_get (C := RX3) (T := TX3) (N := 2) (ci := 3) (v := .ref hc) hC hcw3 0 rfl rfl 1 (by decide) w2 (fun _ h => h) rfl dX3_tryRedeem_31 ?_
    refine g_iconst (v := nI 0) hC dX3_tryRedeem_34 rfl ?_
    refine g_aload_n hC 0 dX3_tryRedeem_35 rfl rfl ?_
    refine g_callVip (As := []) (rest := [.int (nI 0), .ref hc]) hC ((payF c (P 0 k) (-(owed P c k))) 0) (c_X3_inTill l D cI cZ hs hp hc (payF c (P 0 k) (-(owed P c k)))) (cwV 0 hC.1.2.2.2.2 gX3_tryRedeem_X3_inTill rfl rfl rfl dV_X3_inTill ⟨Nat.le_of_ble_eq_true rfl, Nat.le_of_ble_eq_true rfl⟩) rfl rfl rfl rfl (Nat.le_of_ble_eq_true rfl) dX3_tryRedeem_36 ⟨Nat.le_of_ble_eq_true rfl, Nat.le_of_ble_eq_true rfl⟩ [0, 1] rfl rfl ?_
    refine g_top (y := c 0) (payF_ne _ _ (by omega)) ?_
    refine g_iload_n hC 2 dX3_tryRedeem_39 rfl rfl ?_
    refine g_iadd hC dX3_tryRedeem_40 ?_
    refine g_callSNv (As := [.ref hc, .int (nI 0), .int ((c 0) + (owed P c k))]) (rest := []) hC (c_X5_put l D cI cZ hc 20 (payF c (P 0 k) (-(owed P c k))) 0 ((c 0) + (owed P c k)) (by first | assumption | omega) (by first | assumption | omega)) ⟨va_cnB 3 hC.1.2.2.2.2 gX3_tryRedeem_X5_put_n25 rfl rfl rfl (hC.2.2.1.m 7 rfl) w19 dS_X5_put ⟨Nat.le_of_ble_eq_true rfl, Nat.le_of_ble_eq_true rfl⟩, w58, trivial⟩ rfl rfl (Nat.le_of_ble_eq_true rfl) dX3_tryRedeem_41 ⟨Nat.le_of_ble_eq_true rfl, Nat.le_of_ble_eq_true rfl⟩ [1] [0, 2, 3, 4, 5, 6, 7, 8] [0, 8, 1, 2, 3, 4, 5, 6, 7] (fun (_ : Unit) => [(hs, .inr (3, [.ref hp, .ref hc])), (hc, .inl (cI, 20, .inl (upd (payF c (P 0 k) (-(owed P c k))) 0 ((c 0) + (owed P c k))))), (hp, o2 r ti np nq nd), (r 1, .inl (cI, 5, .inl (fun k_ => nI (P 0 k_)))), (r 2, .inl (cI, 5, .inl (fun k_ => nI (P 1 k_)))), (r 3, .inl (cI, 5, .inl (fun k_ => nI (P 2 k_)))), (r 4, .inl (cI, 5, .inl (fun k_ => nI (P 3 k_)))), (r 5, .inl (cI, 5, .inl (fun k_ => nI (P 4 k_)))), (r 6, .inl (cI, 5, .inl (fun k_ => nI (P 5 k_))))]) rfl rfl rfl (fun _ => rfl) (fun z41 hp41 => ?_)
    refine g_is (ws2 := [(hs, .inr (3, [.ref hp, .ref hc])), (hc, .inl (cI, 20, .inl (upd (payF c (P 0 k) (-(owed P c k))) 0 ((c 0) + (owed P c k))))), (hp, o2 r ti np nq nd), (r 1, .inl (cI, 5, .inl (fun k_ => nI (P 0 k_)))), (r 2, .inl (cI, 5, .inl (fun k_ => nI (P 1 k_)))), (r 3, .inl (cI, 5, .inl (fun k_ => nI (P 2 k_)))), (r 4, .inl (cI, 5, .inl (fun k_ => nI (P 3 k_)))), (r 5, .inl (cI, 5, .inl (fun k_ => nI (P 4 k_)))), (r 6, .inl (cI, 5, .inl (fun k_ => nI (P 5 k_))))]) (lv2 := [(0, .ref hs), (1, .int (nI k)), (2, .int (owed P c k))]) (st2 := []) rfl rfl rfl ?_
    refine g_aload_n hC 0 dX3_tryRedeem_44 rfl rfl ?_
    refine g_get (C := RX3) (T := TX3) (N := 2) (ci := 3) (v := .ref hc) hC hcw3 0 rfl rfl 1 (by decide) w2 (fun _ h => h) rfl dX3_tryRedeem_45 ?_
    refine g_iconst (v := nI 5) hC dX3_tryRedeem_48 rfl ?_
    refine g_iload_n hC 1 dX3_tryRedeem_49 rfl rfl ?_
    refine g_iadd_n (a := 5) (b := k) hC dX3_tryRedeem_50 ?_
    refine g_iconst (v := nI 0) hC dX3_tryRedeem_51 rfl ?_
    refine g_callSNv (As := [.ref hc, .int (nI (5 + k)), .int (nI 0)]) (rest := []) hC (c_X5_put l D cI cZ hc 20 (upd (payF c (P 0 k) (-(owed P c k))) 0 ((c 0) + (owed P c k))) (5 + k) (nI 0) (by first | assumption | omega) (by first | assumption | omega)) ⟨va_cnB 3 hC.1.2.2.2.2 gX3_tryRedeem_X5_put_n25 rfl rfl rfl (hC.2.2.1.m 7 rfl) w19 dS_X5_put ⟨Nat.le_of_ble_eq_true rfl, Nat.le_of_ble_eq_true rfl⟩, w58, trivial⟩ rfl rfl (Nat.le_of_ble_eq_true rfl) dX3_tryRedeem_52 ⟨Nat.le_of_ble_eq_true rfl, Nat.le_of_ble_eq_true rfl⟩ [1] [0, 2, 3, 4, 5, 6, 7, 8] [0, 8, 1, 2, 3, 4, 5, 6, 7] (fun (_ : Unit) => [(hs, .inr (3, [.ref hp, .ref hc])), (hc, .inl (cI, 20, .inl (upd (upd (payF c (P 0 k) (-(owed P c k))) 0 ((c 0) + (owed P c k))) (5 + k) (nI 0)))), (hp, o2 r ti np nq nd), (r 1, .inl (cI, 5, .inl (fun k_ => nI (P 0 k_)))), (r 2, .inl (cI, 5, .inl (fun k_ => nI (P 1 k_)))), (r 3, .inl (cI, 5, .inl (fun k_ => nI (P 2 k_)))), (r 4, .inl (cI, 5, .inl (fun k_ => nI (P 3 k_)))), (r 5, .inl (cI, 5, .inl (fun k_ => nI (P 4 k_)))), (r 6, .inl (cI, 5, .inl (fun k_ => nI (P 5 k_))))]) rfl rfl rfl (fun _ => rfl) (fun z52 hp52 => ?_)
    refine g_is (ws2 := [(hs, .inr (3, [.ref hp, .ref hc])), (hc, .inl (cI, 20, .inl (upd (upd (payF c (P 0 k) (-(owed P c k))) 0 ((c 0) + (owed P c k))) (5 + k) (nI 0)))), (hp, o2 r ti np nq nd), (r 1, .inl (cI, 5, .inl (fun k_ => nI (P 0 k_)))), (r 2, .inl (cI, 5, .inl (fun k_ => nI (P 1 k_)))), (r 3, .inl (cI, 5, .inl (fun k_ => nI (P 2 k_)))), (r 4, .inl (cI, 5, .inl (fun k_ => nI (P 3 k_)))), (r 5, .inl (cI, 5, .inl (fun k_ => nI (P 4 k_)))), (r 6, .inl (cI, 5, .inl (fun k_ => nI (P 5 k_))))]) (lv2 := [(0, .ref hs), (1, .int (nI k)), (2, .int (owed P c k))]) (st2 := []) rfl rfl rfl ?_
    have ecell : (upd (upd (payF c (P 0 k) (-(owed P c k))) 0 ((c 0) + (owed P c k))) (5 + k) (nI 0)) = (tryR P c k) := by rw [tryR, if_pos h5t]; rfl
    refine g_ws (ws2 := [(hs, .inr (3, [.ref hp, .ref hc])), (hc, .inl (cI, 20, .inl (tryR P c k))), (hp, o2 r ti np nq nd), (r 1, .inl (cI, 5, .inl (fun k_ => nI (P 0 k_)))), (r 2, .inl (cI, 5, .inl (fun k_ => nI (P 1 k_)))), (r 3, .inl (cI, 5, .inl (fun k_ => nI (P 2 k_)))), (r 4, .inl (cI, 5, .inl (fun k_ => nI (P 3 k_)))), (r 5, .inl (cI, 5, .inl (fun k_ => nI (P 4 k_)))), (r 6, .inl (cI, 5, .inl (fun k_ => nI (P 5 k_))))]) (congrArg (fun zz : Nat → Int32 => ([(hs, .inr (3, [.ref hp, .ref hc])), (hc, .inl (cI, 20, .inl zz)), (hp, o2 r ti np nq nd), (r 1, .inl (cI, 5, .inl (fun k_ => nI (P 0 k_)))), (r 2, .inl (cI, 5, .inl (fun k_ => nI (P 1 k_)))), (r 3, .inl (cI, 5, .inl (fun k_ => nI (P 2 k_)))), (r 4, .inl (cI, 5, .inl (fun k_ => nI (P 3 k_)))), (r 5, .inl (cI, 5, .inl (fun k_ => nI (P 4 k_)))), (r 6, .inl (cI, 5, .inl (fun k_ => nI (P 5 k_))))] : va_W)) ecell) ?_
    refine g_iconst (v := nI 1) hC dX3_tryRedeem_55 rfl ?_
    subst hQ
    refine g_zret (v := nI 1) hC () hr (by decide +kernel) ?_ rfl dX3_tryRedeem_56
    exact (bI_t h5t).symm
  have ecell : c = (tryR P c k) := by rw [tryR, if_neg h5f]
  refine g_ws (ws2 := [(hs, .inr (3, [.ref hp, .ref hc])), (hc, .inl (cI, 20, .inl (tryR P c k))), (hp, o2 r ti np nq nd), (r 1, .inl (cI, 5, .inl (fun k_ => nI (P 0 k_)))), (r 2, .inl (cI, 5, .inl (fun k_ => nI (P 1 k_)))), (r 3, .inl (cI, 5, .inl (fun k_ => nI (P 2 k_)))), (r 4, .inl (cI, 5, .inl (fun k_ => nI (P 3 k_)))), (r 5, .inl (cI, 5, .inl (fun k_ => nI (P 4 k_)))), (r 6, .inl (cI, 5, .inl (fun k_ => nI (P 5 k_))))]) (congrArg (fun zz : Nat → Int32 => ([(hs, .inr (3, [.ref hp, .ref hc])), (hc, .inl (cI, 20, .inl zz)), (hp, o2 r ti np nq nd), (r 1, .inl (cI, 5, .inl (fun k_ => nI (P 0 k_)))), (r 2, .inl (cI, 5, .inl (fun k_ => nI (P 1 k_)))), (r 3, .inl (cI, 5, .inl (fun k_ => nI (P 2 k_)))), (r 4, .inl (cI, 5, .inl (fun k_ => nI (P 3 k_)))), (r 5, .inl (cI, 5, .inl (fun k_ => nI (P 4 k_)))), (r 6, .inl (cI, 5, .inl (fun k_ => nI (P 5 k_))))] : va_W)) ecell) ?_
  refine g_iconst (v := nI 0) hC dX3_tryRedeem_8 rfl ?_
  subst hQ
  refine g_zret (v := nI 0) hC () hr (by decide +kernel) ?_ rfl dX3_tryRedeem_9
  exact (bI_f h5f).symm

abbrev rm_X3_tryRedeem_no : Room := { frames := 2, cells := 0, slots := 0, locals := 42 }
set_option maxRecDepth 100000 in
set_option maxHeartbeats 4000000 in
theorem c_X3_tryRedeem_no (l : Launch) (D : va_G) (cI cZ : ClassId) (hs : Nat) (hp : Nat) (hc : Nat) (c : Nat → Int32) (r : Nat → Nat) (ti : Int32) (np : Nat) (nq : Nat) (nd : Nat) (P : Nat → Nat → Nat) (a : Int32) (hW : WFP np nq nd P) (ha : ¬ inR a nq) : CtI l yX3_tryRedeem wsX3_tryRedeem rm_X3_tryRedeem_no D cI cZ [.ref hs, .int a] [(hs, .inr (3, [.ref hp, .ref hc])), (hc, .inl (cI, 20, .inl c)), (hp, o2 r ti np nq nd), (r 1, .inl (cI, 5, .inl (fun k_ => nI (P 0 k_)))), (r 2, .inl (cI, 5, .inl (fun k_ => nI (P 1 k_)))), (r 3, .inl (cI, 5, .inl (fun k_ => nI (P 2 k_)))), (r 4, .inl (cI, 5, .inl (fun k_ => nI (P 3 k_)))), (r 5, .inl (cI, 5, .inl (fun k_ => nI (P 4 k_)))), (r 6, .inl (cI, 5, .inl (fun k_ => nI (P 5 k_))))] (fun r (_ : Unit) => r = nI 0) (fun (_ : Unit) => [(hs, .inr (3, [.ref hp, .ref hc])), (hc, .inl (cI, 20, .inl c)), (hp, o2 r ti np nq nd), (r 1, .inl (cI, 5, .inl (fun k_ => nI (P 0 k_)))), (r 2, .inl (cI, 5, .inl (fun k_ => nI (P 1 k_)))), (r 3, .inl (cI, 5, .inl (fun k_ => nI (P 2 k_)))), (r 4, .inl (cI, 5, .inl (fun k_ => nI (P 3 k_)))), (r 5, .inl (cI, 5, .inl (fun k_ => nI (P 4 k_)))), (r 6, .inl (cI, 5, .inl (fun k_ => nI (P 5 k_))))]) 0 0 := by
  refine g_startI (ret := (some .boolean)) (own := RX3) (lv0 := [(0, .ref hs), (1, .int a)]) (by decide) rfl rfl (Nat.le_of_ble_eq_true rfl) rfl ?_
  intro p e s m args below meth cd A Q hin hr hQ hC
  refine g_aload_n hC 0 dX3_tryRedeem_0 rfl rfl ?_
  refine g_iload_n hC 1 dX3_tryRedeem_1 rfl rfl ?_
  refine g_callVip (As := [.int a]) (rest := []) hC (nI 0) (c_X3_canRedeem_no l D cI cZ hs hp hc c r ti np nq nd P a (by first | assumption | omega) (by first | assumption | omega)) (cwV 1 hC.1.2.2.2.2 gX3_tryRedeem_X3_canRedeem rfl rfl rfl dV_X3_canRedeem ⟨Nat.le_of_ble_eq_true rfl, Nat.le_of_ble_eq_true rfl⟩) rfl rfl rfl rfl (Nat.le_of_ble_eq_true rfl) dX3_tryRedeem_2 ⟨Nat.le_of_ble_eq_true rfl, Nat.le_of_ble_eq_true rfl⟩ [0, 1, 2, 3, 4, 5, 6, 7, 8] rfl rfl ?_
  refine g_if_ne_n (a := 0) hC (by omega) 10 dX3_tryRedeem_5 (by decide) (fun q => absurd q (by decide)) (fun _ => ?_)
  refine g_iconst (v := nI 0) hC dX3_tryRedeem_8 rfl ?_
  subst hQ
  refine g_zret (v := nI 0) hC () hr (by decide +kernel) ?_ rfl dX3_tryRedeem_9
  rfl

abbrev rm_X3_tryGive : Room := { frames := 2, cells := 0, slots := 0, locals := 44 }
set_option maxRecDepth 100000 in
set_option maxHeartbeats 4000000 in
theorem c_X3_tryGive (l : Launch) (D : va_G) (cI cZ : ClassId) (hs : Nat) (hp : Nat) (hc : Nat) (c : Nat → Int32) (r : Nat → Nat) (ti : Int32) (np : Nat) (nq : Nat) (nd : Nat) (k : Nat) (v : Int32) (hk : k < np) (hnp : np ≤ 3) : CtI l yX3_tryGive wsX3_tryGive rm_X3_tryGive D cI cZ [.ref hs, .int (nI k), .int v] [(hs, .inr (3, [.ref hp, .ref hc])), (hc, .inl (cI, 20, .inl c)), (hp, o2 r ti np nq nd)] (fun r (_ : Unit) => r = bI (okG v)) (fun (_ : Unit) => [(hs, .inr (3, [.ref hp, .ref hc])), (hc, .inl (cI, 20, .inl (tryG c k v))), (hp, o2 r ti np nq nd)]) 0 0 := by
  refine g_startI (ret := (some .boolean)) (own := RX3) (lv0 := [(0, .ref hs), (1, .int (nI k)), (2, .int v)]) (by decide) rfl rfl (Nat.le_of_ble_eq_true rfl) rfl ?_
  intro p e s m args below meth cd A Q hin hr hQ hC
  have hcw3 : ∀ w ∈ wsX30, w ∈ wsX3_tryGive := fun _ h => List.mem_cons_of_mem _ (List.mem_append_left _ (List.mem_append_right _ h))
  have w1 := hC.1.2.2.2.2 (.fieldLink "PluckBroker$State" 15 "PluckBroker$State" "plan" "LPluckBroker$Plan;") (List.mem_of_getElem? (i := 1) rfl)
  refine g_aload_n hC 0 dX3_tryGive_0 rfl rfl ?_
  refine g_get (C := RX3) (T := TX3) (N := 2) (ci := 3) (v := .ref hp) hC hcw3 0 rfl rfl 0 (by decide) w1 (fun _ h => h) rfl dX3_tryGive_1 ?_
  refine g_iload_n hC 1 dX3_tryGive_4 rfl rfl ?_
  refine g_callVip (As := [.int (nI k)]) (rest := []) hC (bI (inR (nI k) np)) (c_X2_hasPerson l D cI cZ hp r ti np nq nd (nI k) (by first | assumption | omega)) (cwV 1 hC.1.2.2.2.2 gX3_tryGive_X2_hasPerson rfl rfl rfl dV_X2_hasPerson ⟨Nat.le_of_ble_eq_true rfl, Nat.le_of_ble_eq_true rfl⟩) rfl rfl rfl rfl (Nat.le_of_ble_eq_true rfl) dX3_tryGive_5 ⟨Nat.le_of_ble_eq_true rfl, Nat.le_of_ble_eq_true rfl⟩ [2] rfl rfl ?_
  refine g_if_eq_b hC 22 dX3_tryGive_8 (by decide) (fun h8t => ?_) (fun h8f => ?_)
  · exact absurd (inR_k (by omega) hk) h8t
  refine g_iload_n hC 2 dX3_tryGive_11 rfl rfl ?_
  refine g_iconst (v := nI 1) hC dX3_tryGive_12 rfl ?_
  refine g_icmp_lt hC 22 dX3_tryGive_13 (by decide) (fun h13t => ?_) (fun h13f => ?_)
  · have ecell : c = (tryG c k v) := by rw [tryG, if_neg (fun q => absurd q.1 (Int32.not_le.mpr h13t))]
    refine g_ws (ws2 := [(hs, .inr (3, [.ref hp, .ref hc])), (hc, .inl (cI, 20, .inl (tryG c k v))), (hp, o2 r ti np nq nd)]) (congrArg (fun zz : Nat → Int32 => ([(hs, .inr (3, [.ref hp, .ref hc])), (hc, .inl (cI, 20, .inl zz)), (hp, o2 r ti np nq nd)] : va_W)) ecell) ?_
    refine g_iconst (v := nI 0) hC dX3_tryGive_22 rfl ?_
    subst hQ
    refine g_zret (v := nI 0) hC () hr (by decide +kernel) ?_ rfl dX3_tryGive_23
    exact (bI_f (fun q => absurd q.1 (Int32.not_le.mpr h13t))).symm
  refine g_iload_n hC 2 dX3_tryGive_16 rfl rfl ?_
  refine g_bipush (v := nI 9) hC dX3_tryGive_17 (by decide +kernel) ?_
  refine g_icmp_le hC 24 dX3_tryGive_19 (by decide) (fun h19t => ?_) (fun h19f => ?_)
  · refine g_aload_n hC 0 dX3_tryGive_24 rfl rfl ?_
    refine g_iload_n hC 1 dX3_tryGive_25 rfl rfl ?_
    refine g_iload_n hC 2 dX3_tryGive_26 rfl rfl ?_
    refine g_callVv (As := [.int (nI k), .int v]) (rest := []) hC (c_X3_pay l D cI cZ hs hp hc c k v (by first | assumption | omega)) (cwV 2 hC.1.2.2.2.2 gX3_tryGive_X3_pay rfl rfl rfl dV_X3_pay ⟨Nat.le_of_ble_eq_true rfl, Nat.le_of_ble_eq_true rfl⟩) rfl rfl rfl rfl (Nat.le_of_ble_eq_true rfl) dX3_tryGive_27 ⟨Nat.le_of_ble_eq_true rfl, Nat.le_of_ble_eq_true rfl⟩ [0, 1] [2] [1, 2, 0] (fun (_ : Unit) => [(hs, .inr (3, [.ref hp, .ref hc])), (hc, .inl (cI, 20, .inl (payF c k v))), (hp, o2 r ti np nq nd)]) rfl rfl rfl (fun _ => rfl) (fun z27 hp27 => ?_)
    refine g_is (ws2 := [(hs, .inr (3, [.ref hp, .ref hc])), (hc, .inl (cI, 20, .inl (payF c k v))), (hp, o2 r ti np nq nd)]) (lv2 := [(0, .ref hs), (1, .int (nI k)), (2, .int v)]) (st2 := []) rfl rfl rfl ?_
    have ecell : (payF c k v) = (tryG c k v) := by rw [tryG, if_pos ⟨Int32.not_lt.mp h13f, h19t⟩]
    refine g_ws (ws2 := [(hs, .inr (3, [.ref hp, .ref hc])), (hc, .inl (cI, 20, .inl (tryG c k v))), (hp, o2 r ti np nq nd)]) (congrArg (fun zz : Nat → Int32 => ([(hs, .inr (3, [.ref hp, .ref hc])), (hc, .inl (cI, 20, .inl zz)), (hp, o2 r ti np nq nd)] : va_W)) ecell) ?_
    refine g_iconst (v := nI 1) hC dX3_tryGive_30 rfl ?_
    subst hQ
    refine g_zret (v := nI 1) hC () hr (by decide +kernel) ?_ rfl dX3_tryGive_31
    exact (bI_t ⟨Int32.not_lt.mp h13f, h19t⟩).symm
  have ecell : c = (tryG c k v) := by rw [tryG, if_neg (fun q => absurd q.2 (Int32.not_le.mpr (Int32.not_le.mp h19f)))]
  refine g_ws (ws2 := [(hs, .inr (3, [.ref hp, .ref hc])), (hc, .inl (cI, 20, .inl (tryG c k v))), (hp, o2 r ti np nq nd)]) (congrArg (fun zz : Nat → Int32 => ([(hs, .inr (3, [.ref hp, .ref hc])), (hc, .inl (cI, 20, .inl zz)), (hp, o2 r ti np nq nd)] : va_W)) ecell) ?_
  refine g_iconst (v := nI 0) hC dX3_tryGive_22 rfl ?_
  subst hQ
  refine g_zret (v := nI 0) hC () hr (by decide +kernel) ?_ rfl dX3_tryGive_23
  exact (bI_f (fun q => absurd q.2 h19f)).symm

abbrev rm_X3_tryGive_no : Room := { frames := 1, cells := 0, slots := 0, locals := 21 }
set_option maxRecDepth 100000 in
set_option maxHeartbeats 4000000 in
theorem c_X3_tryGive_no (l : Launch) (D : va_G) (cI cZ : ClassId) (hs : Nat) (hp : Nat) (hc : Nat) (c : Nat → Int32) (r : Nat → Nat) (ti : Int32) (np : Nat) (nq : Nat) (nd : Nat) (a : Int32) (v : Int32) (ha : ¬ inR a np) (hnp : np ≤ 3) : CtI l yX3_tryGive wsX3_tryGive rm_X3_tryGive_no D cI cZ [.ref hs, .int a, .int v] [(hs, .inr (3, [.ref hp, .ref hc])), (hc, .inl (cI, 20, .inl c)), (hp, o2 r ti np nq nd)] (fun r (_ : Unit) => r = nI 0) (fun (_ : Unit) => [(hs, .inr (3, [.ref hp, .ref hc])), (hc, .inl (cI, 20, .inl c)), (hp, o2 r ti np nq nd)]) 0 0 := by
  refine g_startI (ret := (some .boolean)) (own := RX3) (lv0 := [(0, .ref hs), (1, .int a), (2, .int v)]) (by decide) rfl rfl (Nat.le_of_ble_eq_true rfl) rfl ?_
  intro p e s m args below meth cd A Q hin hr hQ hC
  have hcw3 : ∀ w ∈ wsX30, w ∈ wsX3_tryGive := fun _ h => List.mem_cons_of_mem _ (List.mem_append_left _ (List.mem_append_right _ h))
  have w1 := hC.1.2.2.2.2 (.fieldLink "PluckBroker$State" 15 "PluckBroker$State" "plan" "LPluckBroker$Plan;") (List.mem_of_getElem? (i := 1) rfl)
  refine g_aload_n hC 0 dX3_tryGive_0 rfl rfl ?_
  refine g_get (C := RX3) (T := TX3) (N := 2) (ci := 3) (v := .ref hp) hC hcw3 0 rfl rfl 0 (by decide) w1 (fun _ h => h) rfl dX3_tryGive_1 ?_
  refine g_iload_n hC 1 dX3_tryGive_4 rfl rfl ?_
  refine g_callVip (As := [.int a]) (rest := []) hC (bI (inR a np)) (c_X2_hasPerson l D cI cZ hp r ti np nq nd a (by first | assumption | omega)) (cwV 1 hC.1.2.2.2.2 gX3_tryGive_X2_hasPerson rfl rfl rfl dV_X2_hasPerson ⟨Nat.le_of_ble_eq_true rfl, Nat.le_of_ble_eq_true rfl⟩) rfl rfl rfl rfl (Nat.le_of_ble_eq_true rfl) dX3_tryGive_5 ⟨Nat.le_of_ble_eq_true rfl, Nat.le_of_ble_eq_true rfl⟩ [2] rfl rfl ?_
  refine g_if_eq_b hC 22 dX3_tryGive_8 (by decide) (fun h8t => ?_) (fun h8f => ?_)
  · refine g_iconst (v := nI 0) hC dX3_tryGive_22 rfl ?_
    subst hQ
    refine g_zret (v := nI 0) hC () hr (by decide +kernel) ?_ rfl dX3_tryGive_23
    rfl
  exact absurd h8f ha

abbrev rm_X3_tryDeed : Room := { frames := 2, cells := 0, slots := 0, locals := 44 }
set_option maxRecDepth 100000 in
set_option maxHeartbeats 4000000 in
theorem c_X3_tryDeed (l : Launch) (D : va_G) (cI cZ : ClassId) (hs : Nat) (hp : Nat) (hc : Nat) (c : Nat → Int32) (r : Nat → Nat) (ti : Int32) (np : Nat) (nq : Nat) (nd : Nat) (P : Nat → Nat → Nat) (k : Nat) (hW : WFP np nq nd P) (hk : k < nd) : CtI l yX3_tryDeed wsX3_tryDeed rm_X3_tryDeed D cI cZ [.ref hs, .int (nI k)] [(hs, .inr (3, [.ref hp, .ref hc])), (hc, .inl (cI, 20, .inl c)), (hp, o2 r ti np nq nd), (r 1, .inl (cI, 5, .inl (fun k_ => nI (P 0 k_)))), (r 2, .inl (cI, 5, .inl (fun k_ => nI (P 1 k_)))), (r 3, .inl (cI, 5, .inl (fun k_ => nI (P 2 k_)))), (r 4, .inl (cI, 5, .inl (fun k_ => nI (P 3 k_)))), (r 5, .inl (cI, 5, .inl (fun k_ => nI (P 4 k_)))), (r 6, .inl (cI, 5, .inl (fun k_ => nI (P 5 k_))))] (fun r (_ : Unit) => r = bI (c (5 + P 3 k) = nI 0)) (fun (_ : Unit) => [(hs, .inr (3, [.ref hp, .ref hc])), (hc, .inl (cI, 20, .inl (deedF P c k))), (hp, o2 r ti np nq nd), (r 1, .inl (cI, 5, .inl (fun k_ => nI (P 0 k_)))), (r 2, .inl (cI, 5, .inl (fun k_ => nI (P 1 k_)))), (r 3, .inl (cI, 5, .inl (fun k_ => nI (P 2 k_)))), (r 4, .inl (cI, 5, .inl (fun k_ => nI (P 3 k_)))), (r 5, .inl (cI, 5, .inl (fun k_ => nI (P 4 k_)))), (r 6, .inl (cI, 5, .inl (fun k_ => nI (P 5 k_))))]) 0 0 := by
  refine g_startI (ret := (some .boolean)) (own := RX3) (lv0 := [(0, .ref hs), (1, .int (nI k))]) (by decide) rfl rfl (Nat.le_of_ble_eq_true rfl) rfl ?_
  intro p e s m args below meth cd A Q hin hr hQ hC
  have hcw3 : ∀ w ∈ wsX30, w ∈ wsX3_tryDeed := fun _ h => List.mem_cons_of_mem _ (List.mem_append_left _ (List.mem_append_right _ h))
  have w1 := hC.1.2.2.2.2 (.fieldLink "PluckBroker$State" 15 "PluckBroker$State" "plan" "LPluckBroker$Plan;") (List.mem_of_getElem? (i := 1) rfl)
  have w2 := hC.1.2.2.2.2 (.fieldLink "PluckBroker$State" 11 "PluckBroker$State" "cells" "[I") (List.mem_of_getElem? (i := 2) rfl)
  have w10 := hC.1.2.2.2.2 (.initialized "PluckBroker") (List.mem_of_getElem? (i := 10) rfl)
  have w17 := hC.1.2.2.2.2 (.static ⟨"PluckBroker", "put", "([III)V"⟩) (List.mem_of_getElem? (i := 17) rfl)
  obtain ⟨⟨hnp, hnq, hnd⟩, hq4, hd5⟩ := id hW
  have hd1 := (hd5 k hk).1
  have ho3 := (hq4 _ hd1).1
  refine g_aload_n hC 0 dX3_tryDeed_0 rfl rfl ?_
  refine g_get (C := RX3) (T := TX3) (N := 2) (ci := 3) (v := .ref hp) hC hcw3 0 rfl rfl 0 (by decide) w1 (fun _ h => h) rfl dX3_tryDeed_1 ?_
  refine g_iload_n hC 1 dX3_tryDeed_4 rfl rfl ?_
  refine g_callVip (As := [.int (nI k)]) (rest := []) hC (nI (P 3 k)) (c_X2_wantedBy l D cI cZ hp r ti np nq nd P k (by first | assumption | omega)) (cwV 1 hC.1.2.2.2.2 gX3_tryDeed_X2_wantedBy rfl rfl rfl dV_X2_wantedBy ⟨Nat.le_of_ble_eq_true rfl, Nat.le_of_ble_eq_true rfl⟩) rfl rfl rfl rfl (Nat.le_of_ble_eq_true rfl) dX3_tryDeed_5 ⟨Nat.le_of_ble_eq_true rfl, Nat.le_of_ble_eq_true rfl⟩ [2, 6] rfl rfl ?_
  refine g_istore_n (lv' := [(0, .ref hs), (1, .int (nI k)), (2, .int (nI (P 3 k)))]) hC [1, 2, 0] dX3_tryDeed_8 rfl (by decide) rfl ?_
  refine g_aload_n hC 0 dX3_tryDeed_9 rfl rfl ?_
  refine g_iload_n hC 2 dX3_tryDeed_10 rfl rfl ?_
  refine g_callVip (As := [.int (nI (P 3 k))]) (rest := []) hC (c (5 + (P 3 k))) (c_X3_standingOf l D cI cZ hs hp hc c (P 3 k) (by first | assumption | omega)) (cwV 1 hC.1.2.2.2.2 gX3_tryDeed_X3_standingOf rfl rfl rfl dV_X3_standingOf ⟨Nat.le_of_ble_eq_true rfl, Nat.le_of_ble_eq_true rfl⟩) rfl rfl rfl rfl (Nat.le_of_ble_eq_true rfl) dX3_tryDeed_11 ⟨Nat.le_of_ble_eq_true rfl, Nat.le_of_ble_eq_true rfl⟩ [0, 1] rfl rfl ?_
  refine g_if_eq hC 31 dX3_tryDeed_14 (by decide) (fun h14t => ?_) (fun h14f => ?_)
  · refine g_aload_n hC 0 dX3_tryDeed_31 rfl rfl ?_
    refine g_get (C := RX3) (T := TX3) (N := 2) (ci := 3) (v := .ref hc) hC hcw3 0 rfl rfl 1 (by decide) w2 (fun _ h => h) rfl dX3_tryDeed_32 ?_
    refine g_bipush (v := nI 15) hC dX3_tryDeed_35 (by decide +kernel) ?_
    refine g_iload_n hC 1 dX3_tryDeed_37 rfl rfl ?_
    refine g_iadd_n (a := 15) (b := k) hC dX3_tryDeed_38 ?_
    refine g_iconst (v := nI 1) hC dX3_tryDeed_39 rfl ?_
    refine g_callSNv (As := [.ref hc, .int (nI (15 + k)), .int (nI 1)]) (rest := []) hC (c_X5_put l D cI cZ hc 20 c (15 + k) (nI 1) (by first | assumption | omega) (by first | assumption | omega)) ⟨va_cnB 3 hC.1.2.2.2.2 gX3_tryDeed_X5_put_n25 rfl rfl rfl (hC.2.2.1.m 7 rfl) w10 dS_X5_put ⟨Nat.le_of_ble_eq_true rfl, Nat.le_of_ble_eq_true rfl⟩, w17, trivial⟩ rfl rfl (Nat.le_of_ble_eq_true rfl) dX3_tryDeed_40 ⟨Nat.le_of_ble_eq_true rfl, Nat.le_of_ble_eq_true rfl⟩ [1] [0, 2, 3, 4, 5, 6, 7, 8] [0, 8, 1, 2, 3, 4, 5, 6, 7] (fun (_ : Unit) => [(hs, .inr (3, [.ref hp, .ref hc])), (hc, .inl (cI, 20, .inl (upd c (15 + k) (nI 1)))), (hp, o2 r ti np nq nd), (r 1, .inl (cI, 5, .inl (fun k_ => nI (P 0 k_)))), (r 2, .inl (cI, 5, .inl (fun k_ => nI (P 1 k_)))), (r 3, .inl (cI, 5, .inl (fun k_ => nI (P 2 k_)))), (r 4, .inl (cI, 5, .inl (fun k_ => nI (P 3 k_)))), (r 5, .inl (cI, 5, .inl (fun k_ => nI (P 4 k_)))), (r 6, .inl (cI, 5, .inl (fun k_ => nI (P 5 k_))))]) rfl rfl rfl (fun _ => rfl) (fun z40 hp40 => ?_)
    refine g_is (ws2 := [(hs, .inr (3, [.ref hp, .ref hc])), (hc, .inl (cI, 20, .inl (upd c (15 + k) (nI 1)))), (hp, o2 r ti np nq nd), (r 1, .inl (cI, 5, .inl (fun k_ => nI (P 0 k_)))), (r 2, .inl (cI, 5, .inl (fun k_ => nI (P 1 k_)))), (r 3, .inl (cI, 5, .inl (fun k_ => nI (P 2 k_)))), (r 4, .inl (cI, 5, .inl (fun k_ => nI (P 3 k_)))), (r 5, .inl (cI, 5, .inl (fun k_ => nI (P 4 k_)))), (r 6, .inl (cI, 5, .inl (fun k_ => nI (P 5 k_))))]) (lv2 := [(0, .ref hs), (1, .int (nI k)), (2, .int (nI (P 3 k)))]) (st2 := []) rfl rfl rfl ?_
    refine g_aload_n hC 0 dX3_tryDeed_43 rfl rfl ?_
    refine g_aload_n hC 0 dX3_tryDeed_44 rfl rfl ?_
    refine g_get (C := RX3) (T := TX3) (N := 2) (ci := 3) (v := .ref hp) hC hcw3 0 rfl rfl 0 (by decide) w1 (fun _ h => h) rfl dX3_tryDeed_45 ?_
    refine g_iload_n hC 2 dX3_tryDeed_48 rfl rfl ?_
    refine g_callVip (As := [.int (nI (P 3 k))]) (rest := [.ref hs]) hC (nI (P 0 (P 3 k))) (c_X2_ownerOf l D cI cZ hp r ti np nq nd P (P 3 k) (by first | assumption | omega)) (cwV 1 hC.1.2.2.2.2 gX3_tryDeed_X2_ownerOf rfl rfl rfl dV_X2_ownerOf ⟨Nat.le_of_ble_eq_true rfl, Nat.le_of_ble_eq_true rfl⟩) rfl rfl rfl rfl (Nat.le_of_ble_eq_true rfl) dX3_tryDeed_49 ⟨Nat.le_of_ble_eq_true rfl, Nat.le_of_ble_eq_true rfl⟩ [2, 3] rfl rfl ?_
    refine g_aload_n hC 0 dX3_tryDeed_52 rfl rfl ?_
    refine g_get (C := RX3) (T := TX3) (N := 2) (ci := 3) (v := .ref hp) hC hcw3 0 rfl rfl 0 (by decide) w1 (fun _ h => h) rfl dX3_tryDeed_53 ?_
    refine g_iload_n hC 1 dX3_tryDeed_56 rfl rfl ?_
    refine g_callVip (As := [.int (nI k)]) (rest := [.int (nI (P 0 (P 3 k))), .ref hs]) hC (nI (P 5 k)) (c_X2_rewardOf l D cI cZ hp r ti np nq nd P k (by first | assumption | omega)) (cwV 1 hC.1.2.2.2.2 gX3_tryDeed_X2_rewardOf rfl rfl rfl dV_X2_rewardOf ⟨Nat.le_of_ble_eq_true rfl, Nat.le_of_ble_eq_true rfl⟩) rfl rfl rfl rfl (Nat.le_of_ble_eq_true rfl) dX3_tryDeed_57 ⟨Nat.le_of_ble_eq_true rfl, Nat.le_of_ble_eq_true rfl⟩ [2, 8] rfl rfl ?_
    refine g_callVv (As := [.int (nI (P 0 (P 3 k))), .int (nI (P 5 k))]) (rest := []) hC (c_X3_pay l D cI cZ hs hp hc (upd c (15 + k) (nI 1)) (P 0 (P 3 k)) (nI (P 5 k)) (by first | assumption | omega)) (cwV 2 hC.1.2.2.2.2 gX3_tryDeed_X3_pay rfl rfl rfl dV_X3_pay ⟨Nat.le_of_ble_eq_true rfl, Nat.le_of_ble_eq_true rfl⟩) rfl rfl rfl rfl (Nat.le_of_ble_eq_true rfl) dX3_tryDeed_60 ⟨Nat.le_of_ble_eq_true rfl, Nat.le_of_ble_eq_true rfl⟩ [0, 1] [2, 3, 4, 5, 6, 7, 8] [7, 8, 0, 1, 2, 3, 4, 5, 6] (fun (_ : Unit) => [(hs, .inr (3, [.ref hp, .ref hc])), (hc, .inl (cI, 20, .inl (payF (upd c (15 + k) (nI 1)) (P 0 (P 3 k)) (nI (P 5 k))))), (hp, o2 r ti np nq nd), (r 1, .inl (cI, 5, .inl (fun k_ => nI (P 0 k_)))), (r 2, .inl (cI, 5, .inl (fun k_ => nI (P 1 k_)))), (r 3, .inl (cI, 5, .inl (fun k_ => nI (P 2 k_)))), (r 4, .inl (cI, 5, .inl (fun k_ => nI (P 3 k_)))), (r 5, .inl (cI, 5, .inl (fun k_ => nI (P 4 k_)))), (r 6, .inl (cI, 5, .inl (fun k_ => nI (P 5 k_))))]) rfl rfl rfl (fun _ => rfl) (fun z60 hp60 => ?_)
    refine g_is (ws2 := [(hs, .inr (3, [.ref hp, .ref hc])), (hc, .inl (cI, 20, .inl (payF (upd c (15 + k) (nI 1)) (P 0 (P 3 k)) (nI (P 5 k))))), (hp, o2 r ti np nq nd), (r 1, .inl (cI, 5, .inl (fun k_ => nI (P 0 k_)))), (r 2, .inl (cI, 5, .inl (fun k_ => nI (P 1 k_)))), (r 3, .inl (cI, 5, .inl (fun k_ => nI (P 2 k_)))), (r 4, .inl (cI, 5, .inl (fun k_ => nI (P 3 k_)))), (r 5, .inl (cI, 5, .inl (fun k_ => nI (P 4 k_)))), (r 6, .inl (cI, 5, .inl (fun k_ => nI (P 5 k_))))]) (lv2 := [(0, .ref hs), (1, .int (nI k)), (2, .int (nI (P 3 k)))]) (st2 := []) rfl rfl rfl ?_
    have ecell : (payF (upd c (15 + k) (nI 1)) (P 0 (P 3 k)) (nI (P 5 k))) = (deedF P c k) := by rw [deedF, if_pos h14t]
    refine g_ws (ws2 := [(hs, .inr (3, [.ref hp, .ref hc])), (hc, .inl (cI, 20, .inl (deedF P c k))), (hp, o2 r ti np nq nd), (r 1, .inl (cI, 5, .inl (fun k_ => nI (P 0 k_)))), (r 2, .inl (cI, 5, .inl (fun k_ => nI (P 1 k_)))), (r 3, .inl (cI, 5, .inl (fun k_ => nI (P 2 k_)))), (r 4, .inl (cI, 5, .inl (fun k_ => nI (P 3 k_)))), (r 5, .inl (cI, 5, .inl (fun k_ => nI (P 4 k_)))), (r 6, .inl (cI, 5, .inl (fun k_ => nI (P 5 k_))))]) (congrArg (fun zz : Nat → Int32 => ([(hs, .inr (3, [.ref hp, .ref hc])), (hc, .inl (cI, 20, .inl zz)), (hp, o2 r ti np nq nd), (r 1, .inl (cI, 5, .inl (fun k_ => nI (P 0 k_)))), (r 2, .inl (cI, 5, .inl (fun k_ => nI (P 1 k_)))), (r 3, .inl (cI, 5, .inl (fun k_ => nI (P 2 k_)))), (r 4, .inl (cI, 5, .inl (fun k_ => nI (P 3 k_)))), (r 5, .inl (cI, 5, .inl (fun k_ => nI (P 4 k_)))), (r 6, .inl (cI, 5, .inl (fun k_ => nI (P 5 k_))))] : va_W)) ecell) ?_
    refine g_iconst (v := nI 1) hC dX3_tryDeed_63 rfl ?_
    subst hQ
    refine g_zret (v := nI 1) hC () hr (by decide +kernel) ?_ rfl dX3_tryDeed_64
    exact (bI_t h14t).symm
  refine g_aload_n hC 0 dX3_tryDeed_17 rfl rfl ?_
  refine g_get (C := RX3) (T := TX3) (N := 2) (ci := 3) (v := .ref hc) hC hcw3 0 rfl rfl 1 (by decide) w2 (fun _ h => h) rfl dX3_tryDeed_18 ?_
  refine g_bipush (v := nI 15) hC dX3_tryDeed_21 (by decide +kernel) ?_
  refine g_iload_n hC 1 dX3_tryDeed_23 rfl rfl ?_
  refine g_iadd_n (a := 15) (b := k) hC dX3_tryDeed_24 ?_
  refine g_iconst (v := nI 2) hC dX3_tryDeed_25 rfl ?_
  refine g_callSNv (As := [.ref hc, .int (nI (15 + k)), .int (nI 2)]) (rest := []) hC (c_X5_put l D cI cZ hc 20 c (15 + k) (nI 2) (by first | assumption | omega) (by first | assumption | omega)) ⟨va_cnB 3 hC.1.2.2.2.2 gX3_tryDeed_X5_put_n25 rfl rfl rfl (hC.2.2.1.m 7 rfl) w10 dS_X5_put ⟨Nat.le_of_ble_eq_true rfl, Nat.le_of_ble_eq_true rfl⟩, w17, trivial⟩ rfl rfl (Nat.le_of_ble_eq_true rfl) dX3_tryDeed_26 ⟨Nat.le_of_ble_eq_true rfl, Nat.le_of_ble_eq_true rfl⟩ [1] [0, 2, 3, 4, 5, 6, 7, 8] [0, 8, 1, 2, 3, 4, 5, 6, 7] (fun (_ : Unit) => [(hs, .inr (3, [.ref hp, .ref hc])), (hc, .inl (cI, 20, .inl (upd c (15 + k) (nI 2)))), (hp, o2 r ti np nq nd), (r 1, .inl (cI, 5, .inl (fun k_ => nI (P 0 k_)))), (r 2, .inl (cI, 5, .inl (fun k_ => nI (P 1 k_)))), (r 3, .inl (cI, 5, .inl (fun k_ => nI (P 2 k_)))), (r 4, .inl (cI, 5, .inl (fun k_ => nI (P 3 k_)))), (r 5, .inl (cI, 5, .inl (fun k_ => nI (P 4 k_)))), (r 6, .inl (cI, 5, .inl (fun k_ => nI (P 5 k_))))]) rfl rfl rfl (fun _ => rfl) (fun z26 hp26 => ?_)
  refine g_is (ws2 := [(hs, .inr (3, [.ref hp, .ref hc])), (hc, .inl (cI, 20, .inl (upd c (15 + k) (nI 2)))), (hp, o2 r ti np nq nd), (r 1, .inl (cI, 5, .inl (fun k_ => nI (P 0 k_)))), (r 2, .inl (cI, 5, .inl (fun k_ => nI (P 1 k_)))), (r 3, .inl (cI, 5, .inl (fun k_ => nI (P 2 k_)))), (r 4, .inl (cI, 5, .inl (fun k_ => nI (P 3 k_)))), (r 5, .inl (cI, 5, .inl (fun k_ => nI (P 4 k_)))), (r 6, .inl (cI, 5, .inl (fun k_ => nI (P 5 k_))))]) (lv2 := [(0, .ref hs), (1, .int (nI k)), (2, .int (nI (P 3 k)))]) (st2 := []) rfl rfl rfl ?_
  have ecell : (upd c (15 + k) (nI 2)) = (deedF P c k) := by rw [deedF, if_neg h14f]
  refine g_ws (ws2 := [(hs, .inr (3, [.ref hp, .ref hc])), (hc, .inl (cI, 20, .inl (deedF P c k))), (hp, o2 r ti np nq nd), (r 1, .inl (cI, 5, .inl (fun k_ => nI (P 0 k_)))), (r 2, .inl (cI, 5, .inl (fun k_ => nI (P 1 k_)))), (r 3, .inl (cI, 5, .inl (fun k_ => nI (P 2 k_)))), (r 4, .inl (cI, 5, .inl (fun k_ => nI (P 3 k_)))), (r 5, .inl (cI, 5, .inl (fun k_ => nI (P 4 k_)))), (r 6, .inl (cI, 5, .inl (fun k_ => nI (P 5 k_))))]) (congrArg (fun zz : Nat → Int32 => ([(hs, .inr (3, [.ref hp, .ref hc])), (hc, .inl (cI, 20, .inl zz)), (hp, o2 r ti np nq nd), (r 1, .inl (cI, 5, .inl (fun k_ => nI (P 0 k_)))), (r 2, .inl (cI, 5, .inl (fun k_ => nI (P 1 k_)))), (r 3, .inl (cI, 5, .inl (fun k_ => nI (P 2 k_)))), (r 4, .inl (cI, 5, .inl (fun k_ => nI (P 3 k_)))), (r 5, .inl (cI, 5, .inl (fun k_ => nI (P 4 k_)))), (r 6, .inl (cI, 5, .inl (fun k_ => nI (P 5 k_))))] : va_W)) ecell) ?_
  refine g_iconst (v := nI 0) hC dX3_tryDeed_29 rfl ?_
  subst hQ
  refine g_zret (v := nI 0) hC () hr (by decide +kernel) ?_ rfl dX3_tryDeed_30
  exact (bI_f h14f).symm

abbrev rm_X3_sellOverdue : Room := { frames := 2, cells := 0, slots := 0, locals := 42 }
set_option maxRecDepth 100000 in
set_option maxHeartbeats 4000000 in
theorem c_X3_sellOverdue (l : Launch) (D : va_G) (cI cZ : ClassId) (hs : Nat) (hp : Nat) (hc : Nat) (c : Nat → Int32) (r : Nat → Nat) (ti : Int32) (np : Nat) (nq : Nat) (nd : Nat) (P : Nat → Nat → Nat) (hW : WFP np nq nd P) : CtV l yX3_sellOverdue wsX3_sellOverdue rm_X3_sellOverdue D cI cZ [.ref hs] [(hs, .inr (3, [.ref hp, .ref hc])), (hc, .inl (cI, 20, .inl c)), (hp, o2 r ti np nq nd), (r 1, .inl (cI, 5, .inl (fun k_ => nI (P 0 k_)))), (r 2, .inl (cI, 5, .inl (fun k_ => nI (P 1 k_)))), (r 3, .inl (cI, 5, .inl (fun k_ => nI (P 2 k_)))), (r 4, .inl (cI, 5, .inl (fun k_ => nI (P 3 k_)))), (r 5, .inl (cI, 5, .inl (fun k_ => nI (P 4 k_)))), (r 6, .inl (cI, 5, .inl (fun k_ => nI (P 5 k_))))] (fun (_ : Unit) => True) (fun (_ : Unit) => [(hs, .inr (3, [.ref hp, .ref hc])), (hc, .inl (cI, 20, .inl (sellD P c nq))), (hp, o2 r ti np nq nd), (r 1, .inl (cI, 5, .inl (fun k_ => nI (P 0 k_)))), (r 2, .inl (cI, 5, .inl (fun k_ => nI (P 1 k_)))), (r 3, .inl (cI, 5, .inl (fun k_ => nI (P 2 k_)))), (r 4, .inl (cI, 5, .inl (fun k_ => nI (P 3 k_)))), (r 5, .inl (cI, 5, .inl (fun k_ => nI (P 4 k_)))), (r 6, .inl (cI, 5, .inl (fun k_ => nI (P 5 k_))))]) 0 0 := by
  refine g_startV (ret := none) (own := RX3) (lv0 := [(0, .ref hs)]) (by decide) rfl rfl (Nat.le_of_ble_eq_true rfl) rfl ?_
  intro p e s m args below meth cd A Q hin hr hQ hC
  have hcw2 : ∀ w ∈ wsX20, w ∈ wsX3_sellOverdue := fun _ h => List.mem_cons_of_mem _ (List.mem_append_right _ h)
  have hcw3 : ∀ w ∈ wsX30, w ∈ wsX3_sellOverdue := fun _ h => List.mem_cons_of_mem _ (List.mem_append_left _ (List.mem_append_right _ h))
  have w1 := hC.1.2.2.2.2 (.fieldLink "PluckBroker$State" 15 "PluckBroker$State" "plan" "LPluckBroker$Plan;") (List.mem_of_getElem? (i := 1) rfl)
  have w2 := hC.1.2.2.2.2 (.fieldLink "PluckBroker$State" 11 "PluckBroker$State" "cells" "[I") (List.mem_of_getElem? (i := 2) rfl)
  have w9 := hC.1.2.2.2.2 (.initialized "PluckBroker") (List.mem_of_getElem? (i := 9) rfl)
  have w25 := hC.1.2.2.2.2 (.static ⟨"PluckBroker", "put", "([III)V"⟩) (List.mem_of_getElem? (i := 25) rfl)
  obtain ⟨⟨hnp, hnq, hnd⟩, hq4, hd5⟩ := id hW
  have hk3 : ∀ q, q < nq → P 2 q ≤ 3 := fun q h => (hq4 q h).2.2.2
  refine g_iconst (v := nI 0) hC dX3_sellOverdue_0 rfl ?_
  refine g_istore_n (lv' := [(0, .ref hs), (1, .int (nI 0))]) hC [1, 0] dX3_sellOverdue_1 rfl (by decide) rfl ?_
  have L2 : ∀ (n : Nat) (i : Nat) (g : Nat → Int32), (i ≤ nq) → (g = sellD P c i) → nq - i < n → G p l e rm_X3_sellOverdue s m args below meth cd D A 0 0 Q 3 [(hs, .inr (3, [.ref hp, .ref hc])), (hc, .inl (cI, 20, .inl g)), (hp, o2 r ti np nq nd), (r 1, .inl (cI, 5, .inl (fun k_ => nI (P 0 k_)))), (r 2, .inl (cI, 5, .inl (fun k_ => nI (P 1 k_)))), (r 3, .inl (cI, 5, .inl (fun k_ => nI (P 2 k_)))), (r 4, .inl (cI, 5, .inl (fun k_ => nI (P 3 k_)))), (r 5, .inl (cI, 5, .inl (fun k_ => nI (P 4 k_)))), (r 6, .inl (cI, 5, .inl (fun k_ => nI (P 5 k_))))] 2 [(0, .ref hs), (1, .int (nI i))] [] := by
    intro n
    induction n with
    | zero => intro i g hi hg hn; exact absurd hn (Nat.not_lt_zero _)
    | succ n ih2 =>
      intro i g hi hg hn
      refine g_iload_n hC 1 dX3_sellOverdue_2 rfl rfl ?_
      refine g_aload_n hC 0 dX3_sellOverdue_3 rfl rfl ?_
      refine g_get (C := RX3) (T := TX3) (N := 2) (ci := 3) (v := .ref hp) hC hcw3 0 rfl rfl 0 (by decide) w1 (fun _ h => h) rfl dX3_sellOverdue_4 ?_
      refine g_getN (C := RX2) (T := TX2) (N := 11) (ci := 2) (v := .int (nI nq)) hC hcw2 2 rfl rfl 9 (by decide) (hC.2.2.1.f 8 rfl) (fun _ h => h) rfl dX3_sellOverdue_7 ?_
      refine g_icmp_ge_n (a := i) (b := nq) hC (by omega) (by omega) 76 dX3_sellOverdue_10 (by decide) (fun h10t => ?_) (fun h10f => ?_)
      · have ei : i = nq := by omega
        rw [ei] at hg
        have ecell : g = (sellD P c nq) := by exact hg
        refine g_ws (ws2 := [(hs, .inr (3, [.ref hp, .ref hc])), (hc, .inl (cI, 20, .inl (sellD P c nq))), (hp, o2 r ti np nq nd), (r 1, .inl (cI, 5, .inl (fun k_ => nI (P 0 k_)))), (r 2, .inl (cI, 5, .inl (fun k_ => nI (P 1 k_)))), (r 3, .inl (cI, 5, .inl (fun k_ => nI (P 2 k_)))), (r 4, .inl (cI, 5, .inl (fun k_ => nI (P 3 k_)))), (r 5, .inl (cI, 5, .inl (fun k_ => nI (P 4 k_)))), (r 6, .inl (cI, 5, .inl (fun k_ => nI (P 5 k_))))]) (congrArg (fun zz : Nat → Int32 => ([(hs, .inr (3, [.ref hp, .ref hc])), (hc, .inl (cI, 20, .inl zz)), (hp, o2 r ti np nq nd), (r 1, .inl (cI, 5, .inl (fun k_ => nI (P 0 k_)))), (r 2, .inl (cI, 5, .inl (fun k_ => nI (P 1 k_)))), (r 3, .inl (cI, 5, .inl (fun k_ => nI (P 2 k_)))), (r 4, .inl (cI, 5, .inl (fun k_ => nI (P 3 k_)))), (r 5, .inl (cI, 5, .inl (fun k_ => nI (P 4 k_)))), (r 6, .inl (cI, 5, .inl (fun k_ => nI (P 5 k_))))] : va_W)) ecell) ?_
        subst hQ
        refine g_vret hC () hr ?_ rfl dX3_sellOverdue_76
        trivial
      refine g_aload_n hC 0 dX3_sellOverdue_13 rfl rfl ?_
      refine g_iload_n hC 1 dX3_sellOverdue_14 rfl rfl ?_
      refine g_callVip (As := [.int (nI i)]) (rest := []) hC (g (5 + i)) (c_X3_standingOf l D cI cZ hs hp hc g i (by first | assumption | omega)) (cwV 1 hC.1.2.2.2.2 gX3_sellOverdue_X3_standingOf rfl rfl rfl dV_X3_standingOf ⟨Nat.le_of_ble_eq_true rfl, Nat.le_of_ble_eq_true rfl⟩) rfl rfl rfl rfl (Nat.le_of_ble_eq_true rfl) dX3_sellOverdue_15 ⟨Nat.le_of_ble_eq_true rfl, Nat.le_of_ble_eq_true rfl⟩ [0, 1] rfl rfl ?_
      refine g_iconst (v := nI 1) hC dX3_sellOverdue_18 rfl ?_
      refine g_icmp_ne hC 41 dX3_sellOverdue_19 (by decide) (fun h19t => ?_) (fun h19f => ?_)
      · refine g_iconst (v := nI 0) hC dX3_sellOverdue_41 rfl ?_
        refine g_istore_n (lv' := [(0, .ref hs), (1, .int (nI i)), (2, .int (nI 0))]) hC [1, 2, 0] dX3_sellOverdue_42 rfl (by decide) rfl ?_
        refine g_iload_n hC 2 dX3_sellOverdue_43 rfl rfl ?_
        refine g_if_eq_n (a := 0) hC (by omega) 70 dX3_sellOverdue_44 (by decide) (fun _ => ?_) (fun q => absurd q (by decide))
        refine g_iinc (v := nI (i + 1)) (lv' := [(0, .ref hs), (1, .int (nI (i + 1))), (2, .int (nI 0))]) hC 1 [1, 0, 2] dX3_sellOverdue_70 rfl (nI_add _ 1) (by decide) rfl ?_
        refine g_goto hC 2 dX3_sellOverdue_73 (by decide) ?_
        refine g_lv [0, 1] (lv2 := [(0, .ref hs), (1, .int (nI (i + 1)))]) rfl ?_
        refine ih2 (i + 1) g ?_ ?_ ?_
        · omega
        · show _ = (if sellD P c i (5 + i) = nI 1 ∧ nI 9 ≤ c 1 - c (10 + i) ∧ P 2 i ≠ 3 then upd (sellD P c i) (5 + i) (nI 2) else sellD P c i)
          have e1 : g 1 = c 1 := by rw [hg]; exact sellD_ne P c i (by omega)
          have e2 : g (10 + i) = c (10 + i) := by rw [hg]; exact sellD_ne P c i (by omega)
          rw [← hg, ← e1, ← e2]
          rw [if_neg (fun q => h19t q.1)]
        · omega
      refine g_aload_n hC 0 dX3_sellOverdue_22 rfl rfl ?_
      refine g_callVip (As := []) (rest := []) hC (g 1) (c_X3_today l D cI cZ hs hp hc g) (cwV 0 hC.1.2.2.2.2 gX3_sellOverdue_X3_today rfl rfl rfl dV_X3_today ⟨Nat.le_of_ble_eq_true rfl, Nat.le_of_ble_eq_true rfl⟩) rfl rfl rfl rfl (Nat.le_of_ble_eq_true rfl) dX3_sellOverdue_23 ⟨Nat.le_of_ble_eq_true rfl, Nat.le_of_ble_eq_true rfl⟩ [0, 1] rfl rfl ?_
      refine g_aload_n hC 0 dX3_sellOverdue_26 rfl rfl ?_
      refine g_iload_n hC 1 dX3_sellOverdue_27 rfl rfl ?_
      refine g_callVip (As := [.int (nI i)]) (rest := [.int (g 1)]) hC (g (10 + i)) (c_X3_pledgedOn l D cI cZ hs hp hc g i (by first | assumption | omega)) (cwV 1 hC.1.2.2.2.2 gX3_sellOverdue_X3_pledgedOn rfl rfl rfl dV_X3_pledgedOn ⟨Nat.le_of_ble_eq_true rfl, Nat.le_of_ble_eq_true rfl⟩) rfl rfl rfl rfl (Nat.le_of_ble_eq_true rfl) dX3_sellOverdue_28 ⟨Nat.le_of_ble_eq_true rfl, Nat.le_of_ble_eq_true rfl⟩ [0, 1] rfl rfl ?_
      refine g_isub hC dX3_sellOverdue_31 ?_
      refine g_bipush (v := nI 9) hC dX3_sellOverdue_32 (by decide +kernel) ?_
      refine g_icmp_lt hC 41 dX3_sellOverdue_34 (by decide) (fun h34t => ?_) (fun h34f => ?_)
      · refine g_iconst (v := nI 0) hC dX3_sellOverdue_41 rfl ?_
        refine g_istore_n (lv' := [(0, .ref hs), (1, .int (nI i)), (2, .int (nI 0))]) hC [1, 2, 0] dX3_sellOverdue_42 rfl (by decide) rfl ?_
        refine g_iload_n hC 2 dX3_sellOverdue_43 rfl rfl ?_
        refine g_if_eq_n (a := 0) hC (by omega) 70 dX3_sellOverdue_44 (by decide) (fun _ => ?_) (fun q => absurd q (by decide))
        refine g_iinc (v := nI (i + 1)) (lv' := [(0, .ref hs), (1, .int (nI (i + 1))), (2, .int (nI 0))]) hC 1 [1, 0, 2] dX3_sellOverdue_70 rfl (nI_add _ 1) (by decide) rfl ?_
        refine g_goto hC 2 dX3_sellOverdue_73 (by decide) ?_
        refine g_lv [0, 1] (lv2 := [(0, .ref hs), (1, .int (nI (i + 1)))]) rfl ?_
        refine ih2 (i + 1) g ?_ ?_ ?_
        · omega
        · show _ = (if sellD P c i (5 + i) = nI 1 ∧ nI 9 ≤ c 1 - c (10 + i) ∧ P 2 i ≠ 3 then upd (sellD P c i) (5 + i) (nI 2) else sellD P c i)
          have e1 : g 1 = c 1 := by rw [hg]; exact sellD_ne P c i (by omega)
          have e2 : g (10 + i) = c (10 + i) := by rw [hg]; exact sellD_ne P c i (by omega)
          rw [← hg, ← e1, ← e2]
          rw [if_neg (fun q => absurd q.2.1 (Int32.not_le.mpr h34t))]
        · omega
      refine g_iconst (v := nI 1) hC dX3_sellOverdue_37 rfl ?_
      refine g_goto hC 42 dX3_sellOverdue_38 (by decide) ?_
      refine g_istore_n (lv' := [(0, .ref hs), (1, .int (nI i)), (2, .int (nI 1))]) hC [1, 2, 0] dX3_sellOverdue_42 rfl (by decide) rfl ?_
      refine g_iload_n hC 2 dX3_sellOverdue_43 rfl rfl ?_
      refine g_if_eq_n (a := 1) hC (by omega) 70 dX3_sellOverdue_44 (by decide) (fun q => absurd q (by decide)) (fun _ => ?_)
      refine g_aload_n hC 0 dX3_sellOverdue_47 rfl rfl ?_
      refine g_get (C := RX3) (T := TX3) (N := 2) (ci := 3) (v := .ref hp) hC hcw3 0 rfl rfl 0 (by decide) w1 (fun _ h => h) rfl dX3_sellOverdue_48 ?_
      refine g_iload_n hC 1 dX3_sellOverdue_51 rfl rfl ?_
      have hk2 := hk3 i (by omega)
      refine g_callVip (As := [.int (nI i)]) (rest := []) hC (nI (P 2 i)) (c_X2_kindOf l D cI cZ hp r ti np nq nd P i (by first | assumption | omega)) (cwV 1 hC.1.2.2.2.2 gX3_sellOverdue_X2_kindOf rfl rfl rfl dV_X2_kindOf ⟨Nat.le_of_ble_eq_true rfl, Nat.le_of_ble_eq_true rfl⟩) rfl rfl rfl rfl (Nat.le_of_ble_eq_true rfl) dX3_sellOverdue_52 ⟨Nat.le_of_ble_eq_true rfl, Nat.le_of_ble_eq_true rfl⟩ [2, 5] rfl rfl ?_
      refine g_iconst (v := nI 3) hC dX3_sellOverdue_55 rfl ?_
      refine g_icmp_eq_n (a := (P 2 i)) (b := 3) hC (by omega) (by omega) 70 dX3_sellOverdue_56 (by decide) (fun h56t => ?_) (fun h56f => ?_)
      · refine g_iinc (v := nI (i + 1)) (lv' := [(0, .ref hs), (1, .int (nI (i + 1))), (2, .int (nI 1))]) hC 1 [1, 0, 2] dX3_sellOverdue_70 rfl (nI_add _ 1) (by decide) rfl ?_
        refine g_goto hC 2 dX3_sellOverdue_73 (by decide) ?_
        refine g_lv [0, 1] (lv2 := [(0, .ref hs), (1, .int (nI (i + 1)))]) rfl ?_
        refine ih2 (i + 1) g ?_ ?_ ?_
        · omega
        · show _ = (if sellD P c i (5 + i) = nI 1 ∧ nI 9 ≤ c 1 - c (10 + i) ∧ P 2 i ≠ 3 then upd (sellD P c i) (5 + i) (nI 2) else sellD P c i)
          have e1 : g 1 = c 1 := by rw [hg]; exact sellD_ne P c i (by omega)
          have e2 : g (10 + i) = c (10 + i) := by rw [hg]; exact sellD_ne P c i (by omega)
          rw [← hg, ← e1, ← e2]
          rw [if_neg (fun q => q.2.2 h56t)]
        · omega
      refine g_aload_n hC 0 dX3_sellOverdue_59 rfl rfl ?_
      refine g_get (C := RX3) (T := TX3) (N := 2) (ci := 3) (v := .ref hc) hC hcw3 0 rfl rfl 1 (by decide) w2 (fun _ h => h) rfl dX3_sellOverdue_60 ?_
      refine g_iconst (v := nI 5) hC dX3_sellOverdue_63 rfl ?_
      refine g_iload_n hC 1 dX3_sellOverdue_64 rfl rfl ?_
      refine g_iadd_n (a := 5) (b := i) hC dX3_sellOverdue_65 ?_
      refine g_iconst (v := nI 2) hC dX3_sellOverdue_66 rfl ?_
      refine g_callSNv (As := [.ref hc, .int (nI (5 + i)), .int (nI 2)]) (rest := []) hC (c_X5_put l D cI cZ hc 20 g (5 + i) (nI 2) (by first | assumption | omega) (by first | assumption | omega)) ⟨va_cnB 3 hC.1.2.2.2.2 gX3_sellOverdue_X5_put_n25 rfl rfl rfl (hC.2.2.1.m 7 rfl) w9 dS_X5_put ⟨Nat.le_of_ble_eq_true rfl, Nat.le_of_ble_eq_true rfl⟩, w25, trivial⟩ rfl rfl (Nat.le_of_ble_eq_true rfl) dX3_sellOverdue_67 ⟨Nat.le_of_ble_eq_true rfl, Nat.le_of_ble_eq_true rfl⟩ [1] [0, 2, 3, 4, 5, 6, 7, 8] [0, 8, 1, 2, 3, 4, 5, 6, 7] (fun (_ : Unit) => [(hs, .inr (3, [.ref hp, .ref hc])), (hc, .inl (cI, 20, .inl (upd g (5 + i) (nI 2)))), (hp, o2 r ti np nq nd), (r 1, .inl (cI, 5, .inl (fun k_ => nI (P 0 k_)))), (r 2, .inl (cI, 5, .inl (fun k_ => nI (P 1 k_)))), (r 3, .inl (cI, 5, .inl (fun k_ => nI (P 2 k_)))), (r 4, .inl (cI, 5, .inl (fun k_ => nI (P 3 k_)))), (r 5, .inl (cI, 5, .inl (fun k_ => nI (P 4 k_)))), (r 6, .inl (cI, 5, .inl (fun k_ => nI (P 5 k_))))]) rfl rfl rfl (fun _ => rfl) (fun z67 hp67 => ?_)
      refine g_is (ws2 := [(hs, .inr (3, [.ref hp, .ref hc])), (hc, .inl (cI, 20, .inl (upd g (5 + i) (nI 2)))), (hp, o2 r ti np nq nd), (r 1, .inl (cI, 5, .inl (fun k_ => nI (P 0 k_)))), (r 2, .inl (cI, 5, .inl (fun k_ => nI (P 1 k_)))), (r 3, .inl (cI, 5, .inl (fun k_ => nI (P 2 k_)))), (r 4, .inl (cI, 5, .inl (fun k_ => nI (P 3 k_)))), (r 5, .inl (cI, 5, .inl (fun k_ => nI (P 4 k_)))), (r 6, .inl (cI, 5, .inl (fun k_ => nI (P 5 k_))))]) (lv2 := [(0, .ref hs), (1, .int (nI i)), (2, .int (nI 1))]) (st2 := []) rfl rfl rfl ?_
      refine g_iinc (v := nI (i + 1)) (lv' := [(0, .ref hs), (1, .int (nI (i + 1))), (2, .int (nI 1))]) hC 1 [1, 0, 2] dX3_sellOverdue_70 rfl (nI_add _ 1) (by decide) rfl ?_
      refine g_goto hC 2 dX3_sellOverdue_73 (by decide) ?_
      refine g_lv [0, 1] (lv2 := [(0, .ref hs), (1, .int (nI (i + 1)))]) rfl ?_
      refine ih2 (i + 1) (upd g (5 + i) (nI 2)) ?_ ?_ ?_
      · omega
      · show _ = (if sellD P c i (5 + i) = nI 1 ∧ nI 9 ≤ c 1 - c (10 + i) ∧ P 2 i ≠ 3 then upd (sellD P c i) (5 + i) (nI 2) else sellD P c i)
        have e1 : g 1 = c 1 := by rw [hg]; exact sellD_ne P c i (by omega)
        have e2 : g (10 + i) = c (10 + i) := by rw [hg]; exact sellD_ne P c i (by omega)
        rw [← hg, ← e1, ← e2]
        rw [if_pos ⟨h19f, Int32.not_lt.mp h34f, h56f⟩]
      · omega
  refine L2 _ 0 c ?_ ?_ (Nat.lt_succ_self _)
  · omega
  · rfl

abbrev rm_X3_passDay : Room := { frames := 3, cells := 0, slots := 0, locals := 66 }
set_option maxRecDepth 100000 in
set_option maxHeartbeats 4000000 in
theorem c_X3_passDay (l : Launch) (D : va_G) (cI cZ : ClassId) (hs : Nat) (hp : Nat) (hc : Nat) (c : Nat → Int32) (r : Nat → Nat) (ti : Int32) (np : Nat) (nq : Nat) (nd : Nat) (P : Nat → Nat → Nat) (hW : WFP np nq nd P) : CtI l yX3_passDay wsX3_passDay rm_X3_passDay D cI cZ [.ref hs] [(hs, .inr (3, [.ref hp, .ref hc])), (hc, .inl (cI, 20, .inl c)), (hp, o2 r ti np nq nd), (r 1, .inl (cI, 5, .inl (fun k_ => nI (P 0 k_)))), (r 2, .inl (cI, 5, .inl (fun k_ => nI (P 1 k_)))), (r 3, .inl (cI, 5, .inl (fun k_ => nI (P 2 k_)))), (r 4, .inl (cI, 5, .inl (fun k_ => nI (P 3 k_)))), (r 5, .inl (cI, 5, .inl (fun k_ => nI (P 4 k_)))), (r 6, .inl (cI, 5, .inl (fun k_ => nI (P 5 k_))))] (fun r (_ : Unit) => r = nI (cntD P c nd)) (fun (_ : Unit) => [(hs, .inr (3, [.ref hp, .ref hc])), (hc, .inl (cI, 20, .inl (passF P nq nd c))), (hp, o2 r ti np nq nd), (r 1, .inl (cI, 5, .inl (fun k_ => nI (P 0 k_)))), (r 2, .inl (cI, 5, .inl (fun k_ => nI (P 1 k_)))), (r 3, .inl (cI, 5, .inl (fun k_ => nI (P 2 k_)))), (r 4, .inl (cI, 5, .inl (fun k_ => nI (P 3 k_)))), (r 5, .inl (cI, 5, .inl (fun k_ => nI (P 4 k_)))), (r 6, .inl (cI, 5, .inl (fun k_ => nI (P 5 k_))))]) 0 0 := by
  refine g_startI (ret := (some .int)) (own := RX3) (lv0 := [(0, .ref hs)]) (by decide) rfl rfl (Nat.le_of_ble_eq_true rfl) rfl ?_
  intro p e s m args below meth cd A Q hin hr hQ hC
  have hcw2 : ∀ w ∈ wsX20, w ∈ wsX3_passDay := fun _ h => List.mem_cons_of_mem _ (List.mem_append_right _ h)
  have hcw3 : ∀ w ∈ wsX30, w ∈ wsX3_passDay := fun _ h => List.mem_cons_of_mem _ (List.mem_append_left _ (List.mem_append_right _ h))
  have w1 := hC.1.2.2.2.2 (.fieldLink "PluckBroker$State" 15 "PluckBroker$State" "plan" "LPluckBroker$Plan;") (List.mem_of_getElem? (i := 1) rfl)
  have w2 := hC.1.2.2.2.2 (.fieldLink "PluckBroker$State" 11 "PluckBroker$State" "cells" "[I") (List.mem_of_getElem? (i := 2) rfl)
  have w10 := hC.1.2.2.2.2 (.initialized "PluckBroker") (List.mem_of_getElem? (i := 10) rfl)
  have w30 := hC.1.2.2.2.2 (.static ⟨"PluckBroker", "put", "([III)V"⟩) (List.mem_of_getElem? (i := 30) rfl)
  obtain ⟨⟨hnp, hnq, hnd⟩, hq4, hd5⟩ := id hW
  refine g_iconst (v := nI 0) hC dX3_passDay_0 rfl ?_
  refine g_istore_n (lv' := [(0, .ref hs), (1, .int (nI 0))]) hC [1, 0] dX3_passDay_1 rfl (by decide) rfl ?_
  refine g_iconst (v := nI 0) hC dX3_passDay_2 rfl ?_
  refine g_istore_n (lv' := [(0, .ref hs), (1, .int (nI 0)), (2, .int (nI 0))]) hC [1, 2, 0] dX3_passDay_3 rfl (by decide) rfl ?_
  have L4 : ∀ (n : Nat) (i : Nat) (x : Nat) (g : Nat → Int32), (i ≤ nd) → (x = cntD P c i) → (g = dayD P c i) → nd - i < n → G p l e rm_X3_passDay s m args below meth cd D A 0 0 Q 3 [(hs, .inr (3, [.ref hp, .ref hc])), (hc, .inl (cI, 20, .inl g)), (hp, o2 r ti np nq nd), (r 1, .inl (cI, 5, .inl (fun k_ => nI (P 0 k_)))), (r 2, .inl (cI, 5, .inl (fun k_ => nI (P 1 k_)))), (r 3, .inl (cI, 5, .inl (fun k_ => nI (P 2 k_)))), (r 4, .inl (cI, 5, .inl (fun k_ => nI (P 3 k_)))), (r 5, .inl (cI, 5, .inl (fun k_ => nI (P 4 k_)))), (r 6, .inl (cI, 5, .inl (fun k_ => nI (P 5 k_))))] 4 [(0, .ref hs), (1, .int (nI x)), (2, .int (nI i))] [] := by
    intro n
    induction n with
    | zero => intro i x g hi hx hg hn; exact absurd hn (Nat.not_lt_zero _)
    | succ n ih4 =>
      intro i x g hi hx hg hn
      refine g_iload_n hC 2 dX3_passDay_4 rfl rfl ?_
      refine g_aload_n hC 0 dX3_passDay_5 rfl rfl ?_
      refine g_get (C := RX3) (T := TX3) (N := 2) (ci := 3) (v := .ref hp) hC hcw3 0 rfl rfl 0 (by decide) w1 (fun _ h => h) rfl dX3_passDay_6 ?_
      refine g_getN (C := RX2) (T := TX2) (N := 11) (ci := 2) (v := .int (nI nd)) hC hcw2 2 rfl rfl 10 (by decide) (hC.2.2.1.f 11 rfl) (fun _ h => h) rfl dX3_passDay_9 ?_
      refine g_icmp_ge_n (a := i) (b := nd) hC (by omega) (by omega) 52 dX3_passDay_12 (by decide) (fun h12t => ?_) (fun h12f => ?_)
      · have ei : i = nd := by omega
        rw [ei] at hg hx
        refine g_aload_n hC 0 dX3_passDay_52 rfl rfl ?_
        refine g_get (C := RX3) (T := TX3) (N := 2) (ci := 3) (v := .ref hc) hC hcw3 0 rfl rfl 1 (by decide) w2 (fun _ h => h) rfl dX3_passDay_53 ?_
        refine g_iconst (v := nI 1) hC dX3_passDay_56 rfl ?_
        refine g_aload_n hC 0 dX3_passDay_57 rfl rfl ?_
        refine g_callVip (As := []) (rest := [.int (nI 1), .ref hc]) hC (g 1) (c_X3_today l D cI cZ hs hp hc g) (cwV 0 hC.1.2.2.2.2 gX3_passDay_X3_today rfl rfl rfl dV_X3_today ⟨Nat.le_of_ble_eq_true rfl, Nat.le_of_ble_eq_true rfl⟩) rfl rfl rfl rfl (Nat.le_of_ble_eq_true rfl) dX3_passDay_58 ⟨Nat.le_of_ble_eq_true rfl, Nat.le_of_ble_eq_true rfl⟩ [0, 1] rfl rfl ?_
        refine g_top (y := c 1) (by rw [hg]; exact dayD_day hW c (by omega) nd (Nat.le_refl _)) ?_
        refine g_iconst (v := nI 1) hC dX3_passDay_61 rfl ?_
        refine g_iadd hC dX3_passDay_62 ?_
        refine g_callSNv (As := [.ref hc, .int (nI 1), .int ((c 1) + (nI 1))]) (rest := []) hC (c_X5_put l D cI cZ hc 20 g 1 ((c 1) + (nI 1)) (by first | assumption | omega) (by first | assumption | omega)) ⟨va_cnB 3 hC.1.2.2.2.2 gX3_passDay_X5_put_n25 rfl rfl rfl (hC.2.2.1.m 7 rfl) w10 dS_X5_put ⟨Nat.le_of_ble_eq_true rfl, Nat.le_of_ble_eq_true rfl⟩, w30, trivial⟩ rfl rfl (Nat.le_of_ble_eq_true rfl) dX3_passDay_63 ⟨Nat.le_of_ble_eq_true rfl, Nat.le_of_ble_eq_true rfl⟩ [1] [0, 2, 3, 4, 5, 6, 7, 8] [0, 8, 1, 2, 3, 4, 5, 6, 7] (fun (_ : Unit) => [(hs, .inr (3, [.ref hp, .ref hc])), (hc, .inl (cI, 20, .inl (upd g 1 ((c 1) + (nI 1))))), (hp, o2 r ti np nq nd), (r 1, .inl (cI, 5, .inl (fun k_ => nI (P 0 k_)))), (r 2, .inl (cI, 5, .inl (fun k_ => nI (P 1 k_)))), (r 3, .inl (cI, 5, .inl (fun k_ => nI (P 2 k_)))), (r 4, .inl (cI, 5, .inl (fun k_ => nI (P 3 k_)))), (r 5, .inl (cI, 5, .inl (fun k_ => nI (P 4 k_)))), (r 6, .inl (cI, 5, .inl (fun k_ => nI (P 5 k_))))]) rfl rfl rfl (fun _ => rfl) (fun z63 hp63 => ?_)
        refine g_is (ws2 := [(hs, .inr (3, [.ref hp, .ref hc])), (hc, .inl (cI, 20, .inl (upd g 1 ((c 1) + (nI 1))))), (hp, o2 r ti np nq nd), (r 1, .inl (cI, 5, .inl (fun k_ => nI (P 0 k_)))), (r 2, .inl (cI, 5, .inl (fun k_ => nI (P 1 k_)))), (r 3, .inl (cI, 5, .inl (fun k_ => nI (P 2 k_)))), (r 4, .inl (cI, 5, .inl (fun k_ => nI (P 3 k_)))), (r 5, .inl (cI, 5, .inl (fun k_ => nI (P 4 k_)))), (r 6, .inl (cI, 5, .inl (fun k_ => nI (P 5 k_))))]) (lv2 := [(0, .ref hs), (1, .int (nI x)), (2, .int (nI i))]) (st2 := []) rfl rfl rfl ?_
        refine g_aload_n hC 0 dX3_passDay_66 rfl rfl ?_
        refine g_callVv (As := []) (rest := []) hC (c_X3_sellOverdue l D cI cZ hs hp hc (upd g 1 ((c 1) + (nI 1))) r ti np nq nd P (by first | assumption | omega)) (cwV 0 hC.1.2.2.2.2 gX3_passDay_X3_sellOverdue rfl rfl rfl dV_X3_sellOverdue ⟨Nat.le_of_ble_eq_true rfl, Nat.le_of_ble_eq_true rfl⟩) rfl rfl rfl rfl (Nat.le_of_ble_eq_true rfl) dX3_passDay_67 ⟨Nat.le_of_ble_eq_true rfl, Nat.le_of_ble_eq_true rfl⟩ [0, 1, 2, 3, 4, 5, 6, 7, 8] [] [0, 1, 2, 3, 4, 5, 6, 7, 8] (fun (_ : Unit) => [(hs, .inr (3, [.ref hp, .ref hc])), (hc, .inl (cI, 20, .inl (sellD P (upd g 1 ((c 1) + (nI 1))) nq))), (hp, o2 r ti np nq nd), (r 1, .inl (cI, 5, .inl (fun k_ => nI (P 0 k_)))), (r 2, .inl (cI, 5, .inl (fun k_ => nI (P 1 k_)))), (r 3, .inl (cI, 5, .inl (fun k_ => nI (P 2 k_)))), (r 4, .inl (cI, 5, .inl (fun k_ => nI (P 3 k_)))), (r 5, .inl (cI, 5, .inl (fun k_ => nI (P 4 k_)))), (r 6, .inl (cI, 5, .inl (fun k_ => nI (P 5 k_))))]) rfl rfl rfl (fun _ => rfl) (fun z67 hp67 => ?_)
        refine g_is (ws2 := [(hs, .inr (3, [.ref hp, .ref hc])), (hc, .inl (cI, 20, .inl (sellD P (upd g 1 ((c 1) + (nI 1))) nq))), (hp, o2 r ti np nq nd), (r 1, .inl (cI, 5, .inl (fun k_ => nI (P 0 k_)))), (r 2, .inl (cI, 5, .inl (fun k_ => nI (P 1 k_)))), (r 3, .inl (cI, 5, .inl (fun k_ => nI (P 2 k_)))), (r 4, .inl (cI, 5, .inl (fun k_ => nI (P 3 k_)))), (r 5, .inl (cI, 5, .inl (fun k_ => nI (P 4 k_)))), (r 6, .inl (cI, 5, .inl (fun k_ => nI (P 5 k_))))]) (lv2 := [(0, .ref hs), (1, .int (nI x)), (2, .int (nI i))]) (st2 := []) rfl rfl rfl ?_
        have ecell : (sellD P (upd g 1 ((c 1) + (nI 1))) nq) = (passF P nq nd c) := by rw [passF, hg]
        refine g_ws (ws2 := [(hs, .inr (3, [.ref hp, .ref hc])), (hc, .inl (cI, 20, .inl (passF P nq nd c))), (hp, o2 r ti np nq nd), (r 1, .inl (cI, 5, .inl (fun k_ => nI (P 0 k_)))), (r 2, .inl (cI, 5, .inl (fun k_ => nI (P 1 k_)))), (r 3, .inl (cI, 5, .inl (fun k_ => nI (P 2 k_)))), (r 4, .inl (cI, 5, .inl (fun k_ => nI (P 3 k_)))), (r 5, .inl (cI, 5, .inl (fun k_ => nI (P 4 k_)))), (r 6, .inl (cI, 5, .inl (fun k_ => nI (P 5 k_))))]) (congrArg (fun zz : Nat → Int32 => ([(hs, .inr (3, [.ref hp, .ref hc])), (hc, .inl (cI, 20, .inl zz)), (hp, o2 r ti np nq nd), (r 1, .inl (cI, 5, .inl (fun k_ => nI (P 0 k_)))), (r 2, .inl (cI, 5, .inl (fun k_ => nI (P 1 k_)))), (r 3, .inl (cI, 5, .inl (fun k_ => nI (P 2 k_)))), (r 4, .inl (cI, 5, .inl (fun k_ => nI (P 3 k_)))), (r 5, .inl (cI, 5, .inl (fun k_ => nI (P 4 k_)))), (r 6, .inl (cI, 5, .inl (fun k_ => nI (P 5 k_))))] : va_W)) ecell) ?_
        refine g_iload_n hC 1 dX3_passDay_70 rfl rfl ?_
        subst hQ
        refine g_iret (v := nI x) hC () hr ?_ rfl dX3_passDay_71
        rw [hx]
      refine g_aload_n hC 0 dX3_passDay_15 rfl rfl ?_
      refine g_get (C := RX3) (T := TX3) (N := 2) (ci := 3) (v := .ref hp) hC hcw3 0 rfl rfl 0 (by decide) w1 (fun _ h => h) rfl dX3_passDay_16 ?_
      refine g_iload_n hC 2 dX3_passDay_19 rfl rfl ?_
      refine g_callVip (As := [.int (nI i)]) (rest := []) hC (nI (P 4 i)) (c_X2_dayOf l D cI cZ hp r ti np nq nd P i (by first | assumption | omega)) (cwV 1 hC.1.2.2.2.2 gX3_passDay_X2_dayOf rfl rfl rfl dV_X2_dayOf ⟨Nat.le_of_ble_eq_true rfl, Nat.le_of_ble_eq_true rfl⟩) rfl rfl rfl rfl (Nat.le_of_ble_eq_true rfl) dX3_passDay_20 ⟨Nat.le_of_ble_eq_true rfl, Nat.le_of_ble_eq_true rfl⟩ [2, 7] rfl rfl ?_
      refine g_aload_n hC 0 dX3_passDay_23 rfl rfl ?_
      refine g_callVip (As := []) (rest := [.int (nI (P 4 i))]) hC (g 1) (c_X3_today l D cI cZ hs hp hc g) (cwV 0 hC.1.2.2.2.2 gX3_passDay_X3_today rfl rfl rfl dV_X3_today ⟨Nat.le_of_ble_eq_true rfl, Nat.le_of_ble_eq_true rfl⟩) rfl rfl rfl rfl (Nat.le_of_ble_eq_true rfl) dX3_passDay_24 ⟨Nat.le_of_ble_eq_true rfl, Nat.le_of_ble_eq_true rfl⟩ [0, 1] rfl rfl ?_
      refine g_icmp_ne hC 46 dX3_passDay_27 (by decide) (fun h27t => ?_) (fun h27f => ?_)
      · refine g_iinc (v := nI (i + 1)) (lv' := [(0, .ref hs), (1, .int (nI x)), (2, .int (nI (i + 1)))]) hC 2 [1, 2, 0] dX3_passDay_46 rfl (nI_add _ 1) (by decide) rfl ?_
        refine g_goto hC 4 dX3_passDay_49 (by decide) ?_
        refine ih4 (i + 1) x g ?_ ?_ ?_ ?_
        · omega
        · have e1 : g 1 = c 1 := by rw [hg]; exact dayD_day hW c (by omega) i (by omega)
          show _ = cntD P c i + (if nI (P 4 i) = c 1 ∧ dayD P c i (5 + P 3 i) = nI 0 then 1 else 0)
          rw [← e1, ← hg, ← hx]
          rw [if_neg (fun q => h27t q.1)]; rfl
        · have e1 : g 1 = c 1 := by rw [hg]; exact dayD_day hW c (by omega) i (by omega)
          show _ = (if nI (P 4 i) = c 1 then deedF P (dayD P c i) i else dayD P c i)
          rw [← e1, if_neg h27t]; exact hg
        · omega
      refine g_iload_n hC 1 dX3_passDay_30 rfl rfl ?_
      refine g_aload_n hC 0 dX3_passDay_31 rfl rfl ?_
      refine g_iload_n hC 2 dX3_passDay_32 rfl rfl ?_
      refine g_callVi (As := [.int (nI i)]) (rest := [.int (nI x)]) hC (c_X3_tryDeed l D cI cZ hs hp hc g r ti np nq nd P i (by first | assumption | omega) (by first | assumption | omega)) (cwV 1 hC.1.2.2.2.2 gX3_passDay_X3_tryDeed rfl rfl rfl dV_X3_tryDeed ⟨Nat.le_of_ble_eq_true rfl, Nat.le_of_ble_eq_true rfl⟩) rfl rfl rfl rfl (Nat.le_of_ble_eq_true rfl) dX3_passDay_33 ⟨Nat.le_of_ble_eq_true rfl, Nat.le_of_ble_eq_true rfl⟩ [0, 1, 2, 3, 4, 5, 6, 7, 8] [] [0, 1, 2, 3, 4, 5, 6, 7, 8] (fun (_ : Unit) => [(hs, .inr (3, [.ref hp, .ref hc])), (hc, .inl (cI, 20, .inl (deedF P g i))), (hp, o2 r ti np nq nd), (r 1, .inl (cI, 5, .inl (fun k_ => nI (P 0 k_)))), (r 2, .inl (cI, 5, .inl (fun k_ => nI (P 1 k_)))), (r 3, .inl (cI, 5, .inl (fun k_ => nI (P 2 k_)))), (r 4, .inl (cI, 5, .inl (fun k_ => nI (P 3 k_)))), (r 5, .inl (cI, 5, .inl (fun k_ => nI (P 4 k_)))), (r 6, .inl (cI, 5, .inl (fun k_ => nI (P 5 k_))))]) rfl rfl rfl (fun _ => rfl) (fun r33 z33 hp33 => ?_)
      try dsimp only at hp33
      subst hp33
      refine g_is (ws2 := [(hs, .inr (3, [.ref hp, .ref hc])), (hc, .inl (cI, 20, .inl (deedF P g i))), (hp, o2 r ti np nq nd), (r 1, .inl (cI, 5, .inl (fun k_ => nI (P 0 k_)))), (r 2, .inl (cI, 5, .inl (fun k_ => nI (P 1 k_)))), (r 3, .inl (cI, 5, .inl (fun k_ => nI (P 2 k_)))), (r 4, .inl (cI, 5, .inl (fun k_ => nI (P 3 k_)))), (r 5, .inl (cI, 5, .inl (fun k_ => nI (P 4 k_)))), (r 6, .inl (cI, 5, .inl (fun k_ => nI (P 5 k_))))]) (lv2 := [(0, .ref hs), (1, .int (nI x)), (2, .int (nI i))]) (st2 := [.int (bI (g (5 + P 3 i) = nI 0)), .int (nI x)]) rfl rfl rfl ?_
      refine g_if_eq_b hC 43 dX3_passDay_36 (by decide) (fun h36t => ?_) (fun h36f => ?_)
      · refine g_iconst (v := nI 0) hC dX3_passDay_43 rfl ?_
        refine g_iadd_n (a := x) (b := 0) hC dX3_passDay_44 ?_
        refine g_istore_n (lv' := [(0, .ref hs), (1, .int (nI (x + 0))), (2, .int (nI i))]) hC [1, 0, 2] dX3_passDay_45 rfl (by decide) rfl ?_
        refine g_iinc (v := nI (i + 1)) (lv' := [(0, .ref hs), (1, .int (nI (x + 0))), (2, .int (nI (i + 1)))]) hC 2 [1, 2, 0] dX3_passDay_46 rfl (nI_add _ 1) (by decide) rfl ?_
        refine g_goto hC 4 dX3_passDay_49 (by decide) ?_
        refine ih4 (i + 1) (x + 0) (deedF P g i) ?_ ?_ ?_ ?_
        · omega
        · have e1 : g 1 = c 1 := by rw [hg]; exact dayD_day hW c (by omega) i (by omega)
          show _ = cntD P c i + (if nI (P 4 i) = c 1 ∧ dayD P c i (5 + P 3 i) = nI 0 then 1 else 0)
          rw [← e1, ← hg, ← hx]
          rw [if_neg (fun q => h36t q.2)]
        · have e1 : g 1 = c 1 := by rw [hg]; exact dayD_day hW c (by omega) i (by omega)
          show _ = (if nI (P 4 i) = c 1 then deedF P (dayD P c i) i else dayD P c i)
          rw [← e1, if_pos h27f, ← hg]
        · omega
      refine g_iconst (v := nI 1) hC dX3_passDay_39 rfl ?_
      refine g_goto hC 44 dX3_passDay_40 (by decide) ?_
      refine g_iadd_n (a := x) (b := 1) hC dX3_passDay_44 ?_
      refine g_istore_n (lv' := [(0, .ref hs), (1, .int (nI (x + 1))), (2, .int (nI i))]) hC [1, 0, 2] dX3_passDay_45 rfl (by decide) rfl ?_
      refine g_iinc (v := nI (i + 1)) (lv' := [(0, .ref hs), (1, .int (nI (x + 1))), (2, .int (nI (i + 1)))]) hC 2 [1, 2, 0] dX3_passDay_46 rfl (nI_add _ 1) (by decide) rfl ?_
      refine g_goto hC 4 dX3_passDay_49 (by decide) ?_
      refine ih4 (i + 1) (x + 1) (deedF P g i) ?_ ?_ ?_ ?_
      · omega
      · have e1 : g 1 = c 1 := by rw [hg]; exact dayD_day hW c (by omega) i (by omega)
        show _ = cntD P c i + (if nI (P 4 i) = c 1 ∧ dayD P c i (5 + P 3 i) = nI 0 then 1 else 0)
        rw [← e1, ← hg, ← hx]
        rw [if_pos ⟨h27f, h36f⟩]
      · have e1 : g 1 = c 1 := by rw [hg]; exact dayD_day hW c (by omega) i (by omega)
        show _ = (if nI (P 4 i) = c 1 then deedF P (dayD P c i) i else dayD P c i)
        rw [← e1, if_pos h27f, ← hg]
      · omega
  refine L4 _ 0 0 c ?_ ?_ ?_ (Nat.lt_succ_self _)
  · omega
  · rfl
  · rfl

abbrev rm_X3_deedsInTheEnd : Room := { frames := 4, cells := 0, slots := 0, locals := 88 }
set_option maxRecDepth 100000 in
set_option maxHeartbeats 4000000 in
theorem c_X3_deedsInTheEnd (l : Launch) (D : va_G) (cI cZ : ClassId) (hs : Nat) (hp : Nat) (hc : Nat) (c : Nat → Int32) (r : Nat → Nat) (ti : Int32) (np : Nat) (nq : Nat) (nd : Nat) (P : Nat → Nat → Nat) (hW : WFP np nq nd P) : CtI l yX3_deedsInTheEnd wsX3_deedsInTheEnd rm_X3_deedsInTheEnd D cI cZ [.ref hs] [(hs, .inr (3, [.ref hp, .ref hc])), (hc, .inl (cI, 20, .inl c)), (hp, o2 r ti np nq nd), (r 1, .inl (cI, 5, .inl (fun k_ => nI (P 0 k_)))), (r 2, .inl (cI, 5, .inl (fun k_ => nI (P 1 k_)))), (r 3, .inl (cI, 5, .inl (fun k_ => nI (P 2 k_)))), (r 4, .inl (cI, 5, .inl (fun k_ => nI (P 3 k_)))), (r 5, .inl (cI, 5, .inl (fun k_ => nI (P 4 k_)))), (r 6, .inl (cI, 5, .inl (fun k_ => nI (P 5 k_))))] (fun r (_ : Unit) => r = nI (deedsThat nd (passN P nq nd c 20) (nI 1))) (fun (_ : Unit) => [(hs, .inr (3, [.ref hp, .ref hc])), (hc, .inl (cI, 20, .inl (passN P nq nd c 20))), (hp, o2 r ti np nq nd), (r 1, .inl (cI, 5, .inl (fun k_ => nI (P 0 k_)))), (r 2, .inl (cI, 5, .inl (fun k_ => nI (P 1 k_)))), (r 3, .inl (cI, 5, .inl (fun k_ => nI (P 2 k_)))), (r 4, .inl (cI, 5, .inl (fun k_ => nI (P 3 k_)))), (r 5, .inl (cI, 5, .inl (fun k_ => nI (P 4 k_)))), (r 6, .inl (cI, 5, .inl (fun k_ => nI (P 5 k_))))]) 0 0 := by
  refine g_startI (ret := (some .int)) (own := RX3) (lv0 := [(0, .ref hs)]) (by decide) rfl rfl (Nat.le_of_ble_eq_true rfl) rfl ?_
  intro p e s m args below meth cd A Q hin hr hQ hC
  obtain ⟨⟨hnp, hnq, hnd⟩, hq4, hd5⟩ := id hW
  refine g_iconst (v := nI 0) hC dX3_deedsInTheEnd_0 rfl ?_
  refine g_istore_n (lv' := [(0, .ref hs), (1, .int (nI 0))]) hC [1, 0] dX3_deedsInTheEnd_1 rfl (by decide) rfl ?_
  have L2 : ∀ (n : Nat) (i : Nat) (g : Nat → Int32), (i ≤ 20) → (g = passN P nq nd c i) → 20 - i < n → G p l e rm_X3_deedsInTheEnd s m args below meth cd D A 0 0 Q 2 [(hs, .inr (3, [.ref hp, .ref hc])), (hc, .inl (cI, 20, .inl g)), (hp, o2 r ti np nq nd), (r 1, .inl (cI, 5, .inl (fun k_ => nI (P 0 k_)))), (r 2, .inl (cI, 5, .inl (fun k_ => nI (P 1 k_)))), (r 3, .inl (cI, 5, .inl (fun k_ => nI (P 2 k_)))), (r 4, .inl (cI, 5, .inl (fun k_ => nI (P 3 k_)))), (r 5, .inl (cI, 5, .inl (fun k_ => nI (P 4 k_)))), (r 6, .inl (cI, 5, .inl (fun k_ => nI (P 5 k_))))] 2 [(0, .ref hs), (1, .int (nI i))] [] := by
    intro n
    induction n with
    | zero => intro i g hi hg hn; exact absurd hn (Nat.not_lt_zero _)
    | succ n ih2 =>
      intro i g hi hg hn
      refine g_iload_n hC 1 dX3_deedsInTheEnd_2 rfl rfl ?_
      refine g_bipush (v := nI 20) hC dX3_deedsInTheEnd_3 (by decide +kernel) ?_
      refine g_icmp_ge_n (a := i) (b := 20) hC (by omega) (by omega) 19 dX3_deedsInTheEnd_5 (by decide) (fun h5t => ?_) (fun h5f => ?_)
      · have ei : i = 20 := by omega
        rw [ei] at hg
        have ecell : g = (passN P nq nd c 20) := by exact hg
        refine g_ws (ws2 := [(hs, .inr (3, [.ref hp, .ref hc])), (hc, .inl (cI, 20, .inl (passN P nq nd c 20))), (hp, o2 r ti np nq nd), (r 1, .inl (cI, 5, .inl (fun k_ => nI (P 0 k_)))), (r 2, .inl (cI, 5, .inl (fun k_ => nI (P 1 k_)))), (r 3, .inl (cI, 5, .inl (fun k_ => nI (P 2 k_)))), (r 4, .inl (cI, 5, .inl (fun k_ => nI (P 3 k_)))), (r 5, .inl (cI, 5, .inl (fun k_ => nI (P 4 k_)))), (r 6, .inl (cI, 5, .inl (fun k_ => nI (P 5 k_))))]) (congrArg (fun zz : Nat → Int32 => ([(hs, .inr (3, [.ref hp, .ref hc])), (hc, .inl (cI, 20, .inl zz)), (hp, o2 r ti np nq nd), (r 1, .inl (cI, 5, .inl (fun k_ => nI (P 0 k_)))), (r 2, .inl (cI, 5, .inl (fun k_ => nI (P 1 k_)))), (r 3, .inl (cI, 5, .inl (fun k_ => nI (P 2 k_)))), (r 4, .inl (cI, 5, .inl (fun k_ => nI (P 3 k_)))), (r 5, .inl (cI, 5, .inl (fun k_ => nI (P 4 k_)))), (r 6, .inl (cI, 5, .inl (fun k_ => nI (P 5 k_))))] : va_W)) ecell) ?_
        refine g_aload_n hC 0 dX3_deedsInTheEnd_19 rfl rfl ?_
        refine g_iconst (v := nI 1) hC dX3_deedsInTheEnd_20 rfl ?_
        refine g_callVip (As := [.int (nI 1)]) (rest := []) hC (nI (deedsThat nd (passN P nq nd c 20) (nI 1))) (c_X3_deedsThatAre l D cI cZ hs hp hc (passN P nq nd c 20) r ti np nq nd (nI 1) (by first | assumption | omega)) (cwV 1 hC.1.2.2.2.2 gX3_deedsInTheEnd_X3_deedsThatAre rfl rfl rfl dV_X3_deedsThatAre ⟨Nat.le_of_ble_eq_true rfl, Nat.le_of_ble_eq_true rfl⟩) rfl rfl rfl rfl (Nat.le_of_ble_eq_true rfl) dX3_deedsInTheEnd_21 ⟨Nat.le_of_ble_eq_true rfl, Nat.le_of_ble_eq_true rfl⟩ [0, 1, 2] rfl rfl ?_
        subst hQ
        refine g_iret (v := nI (deedsThat nd (passN P nq nd c 20) (nI 1))) hC () hr ?_ rfl dX3_deedsInTheEnd_24
        rfl
      refine g_aload_n hC 0 dX3_deedsInTheEnd_8 rfl rfl ?_
      refine g_callVi (As := []) (rest := []) hC (c_X3_passDay l D cI cZ hs hp hc g r ti np nq nd P (by first | assumption | omega)) (cwV 0 hC.1.2.2.2.2 gX3_deedsInTheEnd_X3_passDay rfl rfl rfl dV_X3_passDay ⟨Nat.le_of_ble_eq_true rfl, Nat.le_of_ble_eq_true rfl⟩) rfl rfl rfl rfl (Nat.le_of_ble_eq_true rfl) dX3_deedsInTheEnd_9 ⟨Nat.le_of_ble_eq_true rfl, Nat.le_of_ble_eq_true rfl⟩ [0, 1, 2, 3, 4, 5, 6, 7, 8] [] [0, 1, 2, 3, 4, 5, 6, 7, 8] (fun (_ : Unit) => [(hs, .inr (3, [.ref hp, .ref hc])), (hc, .inl (cI, 20, .inl (passF P nq nd g))), (hp, o2 r ti np nq nd), (r 1, .inl (cI, 5, .inl (fun k_ => nI (P 0 k_)))), (r 2, .inl (cI, 5, .inl (fun k_ => nI (P 1 k_)))), (r 3, .inl (cI, 5, .inl (fun k_ => nI (P 2 k_)))), (r 4, .inl (cI, 5, .inl (fun k_ => nI (P 3 k_)))), (r 5, .inl (cI, 5, .inl (fun k_ => nI (P 4 k_)))), (r 6, .inl (cI, 5, .inl (fun k_ => nI (P 5 k_))))]) rfl rfl rfl (fun _ => rfl) (fun r9 z9 hp9 => ?_)
      try dsimp only at hp9
      subst hp9
      refine g_is (ws2 := [(hs, .inr (3, [.ref hp, .ref hc])), (hc, .inl (cI, 20, .inl (passF P nq nd g))), (hp, o2 r ti np nq nd), (r 1, .inl (cI, 5, .inl (fun k_ => nI (P 0 k_)))), (r 2, .inl (cI, 5, .inl (fun k_ => nI (P 1 k_)))), (r 3, .inl (cI, 5, .inl (fun k_ => nI (P 2 k_)))), (r 4, .inl (cI, 5, .inl (fun k_ => nI (P 3 k_)))), (r 5, .inl (cI, 5, .inl (fun k_ => nI (P 4 k_)))), (r 6, .inl (cI, 5, .inl (fun k_ => nI (P 5 k_))))]) (lv2 := [(0, .ref hs), (1, .int (nI i))]) (st2 := [.int (nI (cntD P g nd))]) rfl rfl rfl ?_
      refine g_pop hC dX3_deedsInTheEnd_12 rfl ?_
      refine g_iinc (v := nI (i + 1)) (lv' := [(0, .ref hs), (1, .int (nI (i + 1)))]) hC 1 [1, 0] dX3_deedsInTheEnd_13 rfl (nI_add _ 1) (by decide) rfl ?_
      refine g_goto hC 2 dX3_deedsInTheEnd_16 (by decide) ?_
      refine ih2 (i + 1) (passF P nq nd g) ?_ ?_ ?_
      · omega
      · rw [hg]; rfl
      · omega
  refine L2 _ 0 c ?_ ?_ (Nat.lt_succ_self _)
  · omega
  · rfl

abbrev rm_X3_sellAllBut : Room := { frames := 1, cells := 0, slots := 0, locals := 22 }
set_option maxRecDepth 100000 in
set_option maxHeartbeats 4000000 in
theorem c_X3_sellAllBut (l : Launch) (D : va_G) (cI cZ : ClassId) (hs : Nat) (hp : Nat) (hc : Nat) (c : Nat → Int32) (r : Nat → Nat) (ti : Int32) (np : Nat) (nq : Nat) (nd : Nat) (a : Int32) (hb : nq ≤ 5) : CtV l yX3_sellAllBut wsX3_sellAllBut rm_X3_sellAllBut D cI cZ [.ref hs, .int a] [(hs, .inr (3, [.ref hp, .ref hc])), (hc, .inl (cI, 20, .inl c)), (hp, o2 r ti np nq nd)] (fun (_ : Unit) => True) (fun (_ : Unit) => [(hs, .inr (3, [.ref hp, .ref hc])), (hc, .inl (cI, 20, .inl (sellB a c nq))), (hp, o2 r ti np nq nd)]) 0 0 := by
  refine g_startV (ret := none) (own := RX3) (lv0 := [(0, .ref hs), (1, .int a)]) (by decide) rfl rfl (Nat.le_of_ble_eq_true rfl) rfl ?_
  intro p e s m args below meth cd A Q hin hr hQ hC
  have hcw2 : ∀ w ∈ wsX20, w ∈ wsX3_sellAllBut := fun _ h => List.mem_cons_of_mem _ (List.mem_append_right _ h)
  have hcw3 : ∀ w ∈ wsX30, w ∈ wsX3_sellAllBut := fun _ h => List.mem_cons_of_mem _ (List.mem_append_left _ (List.mem_append_right _ h))
  have w1 := hC.1.2.2.2.2 (.fieldLink "PluckBroker$State" 15 "PluckBroker$State" "plan" "LPluckBroker$Plan;") (List.mem_of_getElem? (i := 1) rfl)
  have w2 := hC.1.2.2.2.2 (.fieldLink "PluckBroker$State" 11 "PluckBroker$State" "cells" "[I") (List.mem_of_getElem? (i := 2) rfl)
  have w3 := hC.1.2.2.2.2 (.static ⟨"PluckBroker", "put", "([III)V"⟩) (List.mem_of_getElem? (i := 3) rfl)
  have w4 := hC.1.2.2.2.2 (.initialized "PluckBroker") (List.mem_of_getElem? (i := 4) rfl)
  refine g_iconst (v := nI 0) hC dX3_sellAllBut_0 rfl ?_
  refine g_istore_n (lv' := [(0, .ref hs), (1, .int a), (2, .int (nI 0))]) hC [1, 2, 0] dX3_sellAllBut_1 rfl (by decide) rfl ?_
  have L2 : ∀ (n : Nat) (i : Nat) (g : Nat → Int32), (i ≤ nq) → (g = sellB a c i) → nq - i < n → G p l e rm_X3_sellAllBut s m args below meth cd D A 0 0 Q 3 [(hs, .inr (3, [.ref hp, .ref hc])), (hc, .inl (cI, 20, .inl g)), (hp, o2 r ti np nq nd)] 2 [(0, .ref hs), (1, .int a), (2, .int (nI i))] [] := by
    intro n
    induction n with
    | zero => intro i g hi hg hn; exact absurd hn (Nat.not_lt_zero _)
    | succ n ih2 =>
      intro i g hi hg hn
      refine g_iload_n hC 2 dX3_sellAllBut_2 rfl rfl ?_
      refine g_aload_n hC 0 dX3_sellAllBut_3 rfl rfl ?_
      refine g_get (C := RX3) (T := TX3) (N := 2) (ci := 3) (v := .ref hp) hC hcw3 0 rfl rfl 0 (by decide) w1 (fun _ h => h) rfl dX3_sellAllBut_4 ?_
      refine g_getN (C := RX2) (T := TX2) (N := 11) (ci := 2) (v := .int (nI nq)) hC hcw2 2 rfl rfl 9 (by decide) (hC.2.2.1.f 8 rfl) (fun _ h => h) rfl dX3_sellAllBut_7 ?_
      refine g_icmp_ge_n (a := i) (b := nq) hC (by omega) (by omega) 35 dX3_sellAllBut_10 (by decide) (fun h10t => ?_) (fun h10f => ?_)
      · have ei : i = nq := by omega
        rw [ei] at hg
        have ecell : g = (sellB a c nq) := by exact hg
        refine g_ws (ws2 := [(hs, .inr (3, [.ref hp, .ref hc])), (hc, .inl (cI, 20, .inl (sellB a c nq))), (hp, o2 r ti np nq nd)]) (congrArg (fun zz : Nat → Int32 => ([(hs, .inr (3, [.ref hp, .ref hc])), (hc, .inl (cI, 20, .inl zz)), (hp, o2 r ti np nq nd)] : va_W)) ecell) ?_
        subst hQ
        refine g_vret hC () hr ?_ rfl dX3_sellAllBut_35
        trivial
      refine g_iload_n hC 2 dX3_sellAllBut_13 rfl rfl ?_
      refine g_iload_n hC 1 dX3_sellAllBut_14 rfl rfl ?_
      refine g_icmp_eq hC 29 dX3_sellAllBut_15 (by decide) (fun h15t => ?_) (fun h15f => ?_)
      · refine g_iinc (v := nI (i + 1)) (lv' := [(0, .ref hs), (1, .int a), (2, .int (nI (i + 1)))]) hC 2 [1, 2, 0] dX3_sellAllBut_29 rfl (nI_add _ 1) (by decide) rfl ?_
        refine g_goto hC 2 dX3_sellAllBut_32 (by decide) ?_
        refine ih2 (i + 1) g ?_ ?_ ?_
        · omega
        · show _ = (if nI i = a then sellB a c i else upd (sellB a c i) (5 + i) (nI 2))
          rw [if_pos h15t]; exact hg
        · omega
      refine g_aload_n hC 0 dX3_sellAllBut_18 rfl rfl ?_
      refine g_get (C := RX3) (T := TX3) (N := 2) (ci := 3) (v := .ref hc) hC hcw3 0 rfl rfl 1 (by decide) w2 (fun _ h => h) rfl dX3_sellAllBut_19 ?_
      refine g_iconst (v := nI 5) hC dX3_sellAllBut_22 rfl ?_
      refine g_iload_n hC 2 dX3_sellAllBut_23 rfl rfl ?_
      refine g_iadd_n (a := 5) (b := i) hC dX3_sellAllBut_24 ?_
      refine g_iconst (v := nI 2) hC dX3_sellAllBut_25 rfl ?_
      refine g_callSNv (As := [.ref hc, .int (nI (5 + i)), .int (nI 2)]) (rest := []) hC (c_X5_put l D cI cZ hc 20 g (5 + i) (nI 2) (by first | assumption | omega) (by first | assumption | omega)) ⟨va_cnB 3 hC.1.2.2.2.2 gX3_sellAllBut_X5_put_n25 rfl rfl rfl (hC.2.2.1.m 7 rfl) w4 dS_X5_put ⟨Nat.le_of_ble_eq_true rfl, Nat.le_of_ble_eq_true rfl⟩, w3, trivial⟩ rfl rfl (Nat.le_of_ble_eq_true rfl) dX3_sellAllBut_26 ⟨Nat.le_of_ble_eq_true rfl, Nat.le_of_ble_eq_true rfl⟩ [1] [0, 2] [0, 2, 1] (fun (_ : Unit) => [(hs, .inr (3, [.ref hp, .ref hc])), (hc, .inl (cI, 20, .inl (upd g (5 + i) (nI 2)))), (hp, o2 r ti np nq nd)]) rfl rfl rfl (fun _ => rfl) (fun z26 hp26 => ?_)
      refine g_is (ws2 := [(hs, .inr (3, [.ref hp, .ref hc])), (hc, .inl (cI, 20, .inl (upd g (5 + i) (nI 2)))), (hp, o2 r ti np nq nd)]) (lv2 := [(0, .ref hs), (1, .int a), (2, .int (nI i))]) (st2 := []) rfl rfl rfl ?_
      refine g_iinc (v := nI (i + 1)) (lv' := [(0, .ref hs), (1, .int a), (2, .int (nI (i + 1)))]) hC 2 [1, 2, 0] dX3_sellAllBut_29 rfl (nI_add _ 1) (by decide) rfl ?_
      refine g_goto hC 2 dX3_sellAllBut_32 (by decide) ?_
      refine ih2 (i + 1) (upd g (5 + i) (nI 2)) ?_ ?_ ?_
      · omega
      · show _ = (if nI i = a then sellB a c i else upd (sellB a c i) (5 + i) (nI 2))
        rw [if_neg h15f, ← hg]
      · omega
  refine L2 _ 0 c ?_ ?_ (Nat.lt_succ_self _)
  · omega
  · rfl

abbrev rm_X3_settle : Room := { frames := 2, cells := 0, slots := 0, locals := 42 }
set_option maxRecDepth 100000 in
set_option maxHeartbeats 4000000 in
theorem c_X3_settle (l : Launch) (D : va_G) (cI cZ : ClassId) (hs : Nat) (hp : Nat) (hc : Nat) (c : Nat → Int32) (r : Nat → Nat) (ti : Int32) (np : Nat) (nq : Nat) (nd : Nat) (z : Nat) (hb : nq ≤ 5) (hz : z < 32) : CtV l yX3_settle wsX3_settle rm_X3_settle D cI cZ [.ref hs, .int (nI z)] [(hs, .inr (3, [.ref hp, .ref hc])), (hc, .inl (cI, 20, .inl c)), (hp, o2 r ti np nq nd)] (fun (_ : Unit) => True) (fun (_ : Unit) => [(hs, .inr (3, [.ref hp, .ref hc])), (hc, .inl (cI, 20, .inl (settleF z c nq))), (hp, o2 r ti np nq nd)]) 0 0 := by
  refine g_startV (ret := none) (own := RX3) (lv0 := [(0, .ref hs), (1, .int (nI z))]) (by decide) rfl rfl (Nat.le_of_ble_eq_true rfl) rfl ?_
  intro p e s m args below meth cd A Q hin hr hQ hC
  have hcw2 : ∀ w ∈ wsX20, w ∈ wsX3_settle := fun _ h => List.mem_cons_of_mem _ (List.mem_append_right _ h)
  have hcw3 : ∀ w ∈ wsX30, w ∈ wsX3_settle := fun _ h => List.mem_cons_of_mem _ (List.mem_append_left _ (List.mem_append_right _ h))
  have w1 := hC.1.2.2.2.2 (.fieldLink "PluckBroker$State" 15 "PluckBroker$State" "plan" "LPluckBroker$Plan;") (List.mem_of_getElem? (i := 1) rfl)
  have w2 := hC.1.2.2.2.2 (.fieldLink "PluckBroker$State" 11 "PluckBroker$State" "cells" "[I") (List.mem_of_getElem? (i := 2) rfl)
  have w9 := hC.1.2.2.2.2 (.initialized "PluckBroker") (List.mem_of_getElem? (i := 9) rfl)
  have w11 := hC.1.2.2.2.2 (.static ⟨"PluckBroker", "put", "([III)V"⟩) (List.mem_of_getElem? (i := 11) rfl)
  refine g_iconst (v := nI 0) hC dX3_settle_0 rfl ?_
  refine g_istore_n (lv' := [(0, .ref hs), (1, .int (nI z)), (2, .int (nI 0))]) hC [1, 2, 0] dX3_settle_1 rfl (by decide) rfl ?_
  have L2 : ∀ (n : Nat) (i : Nat) (g : Nat → Int32), (i ≤ nq) → (g = settleF z c i) → nq - i < n → G p l e rm_X3_settle s m args below meth cd D A 0 0 Q 3 [(hs, .inr (3, [.ref hp, .ref hc])), (hc, .inl (cI, 20, .inl g)), (hp, o2 r ti np nq nd)] 2 [(0, .ref hs), (1, .int (nI z)), (2, .int (nI i))] [] := by
    intro n
    induction n with
    | zero => intro i g hi hg hn; exact absurd hn (Nat.not_lt_zero _)
    | succ n ih2 =>
      intro i g hi hg hn
      refine g_iload_n hC 2 dX3_settle_2 rfl rfl ?_
      refine g_aload_n hC 0 dX3_settle_3 rfl rfl ?_
      refine g_get (C := RX3) (T := TX3) (N := 2) (ci := 3) (v := .ref hp) hC hcw3 0 rfl rfl 0 (by decide) w1 (fun _ h => h) rfl dX3_settle_4 ?_
      refine g_getN (C := RX2) (T := TX2) (N := 11) (ci := 2) (v := .int (nI nq)) hC hcw2 2 rfl rfl 9 (by decide) (hC.2.2.1.f 8 rfl) (fun _ h => h) rfl dX3_settle_7 ?_
      refine g_icmp_ge_n (a := i) (b := nq) hC (by omega) (by omega) 52 dX3_settle_10 (by decide) (fun h10t => ?_) (fun h10f => ?_)
      · have ei : i = nq := by omega
        rw [ei] at hg
        have ecell : g = (settleF z c nq) := by exact hg
        refine g_ws (ws2 := [(hs, .inr (3, [.ref hp, .ref hc])), (hc, .inl (cI, 20, .inl (settleF z c nq))), (hp, o2 r ti np nq nd)]) (congrArg (fun zz : Nat → Int32 => ([(hs, .inr (3, [.ref hp, .ref hc])), (hc, .inl (cI, 20, .inl zz)), (hp, o2 r ti np nq nd)] : va_W)) ecell) ?_
        subst hQ
        refine g_vret hC () hr ?_ rfl dX3_settle_52
        trivial
      refine g_aload_n hC 0 dX3_settle_13 rfl rfl ?_
      refine g_iload_n hC 2 dX3_settle_14 rfl rfl ?_
      refine g_callVip (As := [.int (nI i)]) (rest := []) hC (g (5 + i)) (c_X3_standingOf l D cI cZ hs hp hc g i (by first | assumption | omega)) (cwV 1 hC.1.2.2.2.2 gX3_settle_X3_standingOf rfl rfl rfl dV_X3_standingOf ⟨Nat.le_of_ble_eq_true rfl, Nat.le_of_ble_eq_true rfl⟩) rfl rfl rfl rfl (Nat.le_of_ble_eq_true rfl) dX3_settle_15 ⟨Nat.le_of_ble_eq_true rfl, Nat.le_of_ble_eq_true rfl⟩ [0, 1] rfl rfl ?_
      refine g_iconst (v := nI 1) hC dX3_settle_18 rfl ?_
      refine g_icmp_ne hC 46 dX3_settle_19 (by decide) (fun h19t => ?_) (fun h19f => ?_)
      · refine g_iinc (v := nI (i + 1)) (lv' := [(0, .ref hs), (1, .int (nI z)), (2, .int (nI (i + 1)))]) hC 2 [1, 2, 0] dX3_settle_46 rfl (nI_add _ 1) (by decide) rfl ?_
        refine g_goto hC 2 dX3_settle_49 (by decide) ?_
        refine ih2 (i + 1) g ?_ ?_ ?_
        · omega
        · show _ = (if settleF z c i (5 + i) = nI 1 then upd (settleF z c i) (5 + i) (if hasB z i then nI 2 else nI 0) else settleF z c i)
          rw [← hg, if_neg h19t]
        · omega
      refine g_aload_n hC 0 dX3_settle_22 rfl rfl ?_
      refine g_get (C := RX3) (T := TX3) (N := 2) (ci := 3) (v := .ref hc) hC hcw3 0 rfl rfl 1 (by decide) w2 (fun _ h => h) rfl dX3_settle_23 ?_
      refine g_iconst (v := nI 5) hC dX3_settle_26 rfl ?_
      refine g_iload_n hC 2 dX3_settle_27 rfl rfl ?_
      refine g_iadd_n (a := 5) (b := i) hC dX3_settle_28 ?_
      refine g_iload_n hC 1 dX3_settle_29 rfl rfl ?_
      refine g_iload_n hC 2 dX3_settle_30 rfl rfl ?_
      refine g_ishr_n (a := z) (b := i) hC (by omega) (by omega) dX3_settle_31 ?_
      refine g_iconst (v := nI 1) hC dX3_settle_32 rfl ?_
      refine g_iand_n (a := (z / 2 ^ i)) (b := 1) hC dX3_settle_33 ?_
      refine g_iconst (v := nI 1) hC dX3_settle_34 rfl ?_
      refine g_icmp_ne_n (a := ((z / 2 ^ i) &&& 1)) (b := 1) hC (by first | exact and1_lt _ | omega) (by first | exact and1_lt _ | omega) 42 dX3_settle_35 (by decide) (fun h35t => ?_) (fun h35f => ?_)
      · refine g_iconst (v := nI 0) hC dX3_settle_42 rfl ?_
        refine g_callSNv (As := [.ref hc, .int (nI (5 + i)), .int (nI 0)]) (rest := []) hC (c_X5_put l D cI cZ hc 20 g (5 + i) (nI 0) (by first | assumption | omega) (by first | assumption | omega)) ⟨va_cnB 3 hC.1.2.2.2.2 gX3_settle_X5_put_n25 rfl rfl rfl (hC.2.2.1.m 7 rfl) w9 dS_X5_put ⟨Nat.le_of_ble_eq_true rfl, Nat.le_of_ble_eq_true rfl⟩, w11, trivial⟩ rfl rfl (Nat.le_of_ble_eq_true rfl) dX3_settle_43 ⟨Nat.le_of_ble_eq_true rfl, Nat.le_of_ble_eq_true rfl⟩ [1] [0, 2] [0, 2, 1] (fun (_ : Unit) => [(hs, .inr (3, [.ref hp, .ref hc])), (hc, .inl (cI, 20, .inl (upd g (5 + i) (nI 0)))), (hp, o2 r ti np nq nd)]) rfl rfl rfl (fun _ => rfl) (fun z43 hp43 => ?_)
        refine g_is (ws2 := [(hs, .inr (3, [.ref hp, .ref hc])), (hc, .inl (cI, 20, .inl (upd g (5 + i) (nI 0)))), (hp, o2 r ti np nq nd)]) (lv2 := [(0, .ref hs), (1, .int (nI z)), (2, .int (nI i))]) (st2 := []) rfl rfl rfl ?_
        refine g_iinc (v := nI (i + 1)) (lv' := [(0, .ref hs), (1, .int (nI z)), (2, .int (nI (i + 1)))]) hC 2 [1, 2, 0] dX3_settle_46 rfl (nI_add _ 1) (by decide) rfl ?_
        refine g_goto hC 2 dX3_settle_49 (by decide) ?_
        refine ih2 (i + 1) (upd g (5 + i) (nI 0)) ?_ ?_ ?_
        · omega
        · show _ = (if settleF z c i (5 + i) = nI 1 then upd (settleF z c i) (5 + i) (if hasB z i then nI 2 else nI 0) else settleF z c i)
          rw [← hg, if_pos h19f, if_neg h35t]
        · omega
      refine g_iconst (v := nI 2) hC dX3_settle_38 rfl ?_
      refine g_goto hC 43 dX3_settle_39 (by decide) ?_
      refine g_callSNv (As := [.ref hc, .int (nI (5 + i)), .int (nI 2)]) (rest := []) hC (c_X5_put l D cI cZ hc 20 g (5 + i) (nI 2) (by first | assumption | omega) (by first | assumption | omega)) ⟨va_cnB 3 hC.1.2.2.2.2 gX3_settle_X5_put_n25 rfl rfl rfl (hC.2.2.1.m 7 rfl) w9 dS_X5_put ⟨Nat.le_of_ble_eq_true rfl, Nat.le_of_ble_eq_true rfl⟩, w11, trivial⟩ rfl rfl (Nat.le_of_ble_eq_true rfl) dX3_settle_43 ⟨Nat.le_of_ble_eq_true rfl, Nat.le_of_ble_eq_true rfl⟩ [1] [0, 2] [0, 2, 1] (fun (_ : Unit) => [(hs, .inr (3, [.ref hp, .ref hc])), (hc, .inl (cI, 20, .inl (upd g (5 + i) (nI 2)))), (hp, o2 r ti np nq nd)]) rfl rfl rfl (fun _ => rfl) (fun z43 hp43 => ?_)
      refine g_is (ws2 := [(hs, .inr (3, [.ref hp, .ref hc])), (hc, .inl (cI, 20, .inl (upd g (5 + i) (nI 2)))), (hp, o2 r ti np nq nd)]) (lv2 := [(0, .ref hs), (1, .int (nI z)), (2, .int (nI i))]) (st2 := []) rfl rfl rfl ?_
      refine g_iinc (v := nI (i + 1)) (lv' := [(0, .ref hs), (1, .int (nI z)), (2, .int (nI (i + 1)))]) hC 2 [1, 2, 0] dX3_settle_46 rfl (nI_add _ 1) (by decide) rfl ?_
      refine g_goto hC 2 dX3_settle_49 (by decide) ?_
      refine ih2 (i + 1) (upd g (5 + i) (nI 2)) ?_ ?_ ?_
      · omega
      · show _ = (if settleF z c i (5 + i) = nI 1 then upd (settleF z c i) (5 + i) (if hasB z i then nI 2 else nI 0) else settleF z c i)
        rw [← hg, if_pos h19f, if_pos h35f]
      · omega
  refine L2 _ 0 c ?_ ?_ (Nat.lt_succ_self _)
  · omega
  · rfl
