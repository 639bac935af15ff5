abbrev rm_X6_longPower : Room := { frames := 0, cells := 0, slots := 0, locals := 0 }
set_option maxRecDepth 100000 in
set_option maxHeartbeats 4000000 in
theorem c_X6_longPower (l : Launch) (D : va_G) (cI cZ : ClassId) (q : Nat) (hq : q ≤ 4) : CtL l yX6_longPower wsX6_longPower rm_X6_longPower D cI cZ [.long ((nI 1000).toInt64), .int (nI q)] [] (fun r (_ : Unit) => r = lN (1000 ^ q)) (fun (_ : Unit) => []) 0 0 := by
  refine g_startL (ret := (some .long)) (own := RX6) (lv0 := [(0, .long ((nI 1000).toInt64)), (2, .int (nI q))]) (by decide) rfl rfl (Nat.le_of_ble_eq_true rfl) rfl ?_
  intro p e s m args below meth cd A Q hin hr hQ hC
  refine g_lconst (v := (nI 1).toInt64) hC dX6_longPower_0 (by decide +kernel) ?_
  refine g_topl (y := lN 1) (nI_l (by decide)) ?_
  refine g_lstore_n (lv' := [(0, .long ((nI 1000).toInt64)), (2, .int (nI q)), (3, .long (lN 1))]) hC [1, 2, 0] dX6_longPower_1 rfl (by decide) rfl ?_
  refine g_iconst (v := nI 0) hC dX6_longPower_2 rfl ?_
  refine g_istore (lv' := [(0, .long ((nI 1000).toInt64)), (2, .int (nI q)), (3, .long (lN 1)), (5, .int (nI 0))]) hC [1, 2, 3, 0] dX6_longPower_3 (by decide) rfl ?_
  have L5 : ∀ (n : Nat) (i : Nat) (v : Nat), (i ≤ q) → (v = 1000 ^ i) → q - i < n → G p l e rm_X6_longPower s m args below meth cd D A 0 0 Q 6 [] 5 [(0, .long ((nI 1000).toInt64)), (2, .int (nI q)), (3, .long (lN v)), (5, .int (nI i))] [] := by
    intro n
    induction n with
    | zero => intro i v hi hv hn; exact absurd hn (Nat.not_lt_zero _)
    | succ n ih5 =>
      intro i v hi hv hn
      refine g_iload hC 3 dX6_longPower_5 rfl ?_
      refine g_iload_n hC 1 dX6_longPower_7 rfl rfl ?_
      refine g_icmp_ge_n (a := i) (b := q) hC (by omega) (by omega) 21 dX6_longPower_8 (by decide) (fun h8t => ?_) (fun h8f => ?_)
      · refine g_lload_n hC 2 dX6_longPower_21 rfl rfl ?_
        subst hQ
        refine g_lret (v := lN v) hC () hr ?_ rfl dX6_longPower_22
        have ei : i = q := by omega
        rw [hv, ei]
      refine g_lload_n hC 2 dX6_longPower_11 rfl rfl ?_
      refine g_lload_n hC 0 dX6_longPower_12 rfl rfl ?_
      refine g_topl (y := lN 1000) (nI_l (by decide)) ?_
      refine g_lmul hC dX6_longPower_13 ?_
      refine g_topl (y := lN (v * 1000)) (lN_mul _ _) ?_
      refine g_lstore_n (lv' := [(0, .long ((nI 1000).toInt64)), (2, .int (nI q)), (3, .long (lN (v * 1000))), (5, .int (nI i))]) hC [1, 2, 0, 3] dX6_longPower_14 rfl (by decide) rfl ?_
      refine g_iinc (v := nI (i + 1)) (lv' := [(0, .long ((nI 1000).toInt64)), (2, .int (nI q)), (3, .long (lN (v * 1000))), (5, .int (nI (i + 1)))]) hC 3 [1, 2, 3, 0] dX6_longPower_15 rfl (nI_add _ 1) (by decide) rfl ?_
      refine g_goto hC 5 dX6_longPower_18 (by decide) ?_
      refine ih5 (i + 1) (v * 1000) ?_ ?_ ?_
      · omega
      · rw [hv, Nat.pow_succ]
      · omega
  refine L5 _ 0 1 ?_ ?_ (Nat.lt_succ_self _)
  · omega
  · rfl

abbrev rm_X6_ways : Room := { frames := 0, cells := 0, slots := 0, locals := 0 }
set_option maxRecDepth 100000 in
set_option maxHeartbeats 4000000 in
theorem c_X6_ways (l : Launch) (D : va_G) (cI cZ : ClassId) (q : Nat) (hq : q ≤ 5) : CtI l yX6_ways wsX6_ways rm_X6_ways D cI cZ [.int (nI q)] [] (fun r (_ : Unit) => r = nI (fac q)) (fun (_ : Unit) => []) 0 0 := by
  refine g_startI (ret := (some .int)) (own := RX6) (lv0 := [(0, .int (nI q))]) (by decide) rfl rfl (Nat.le_of_ble_eq_true rfl) rfl ?_
  intro p e s m args below meth cd A Q hin hr hQ hC
  refine g_iconst (v := nI 1) hC dX6_ways_0 rfl ?_
  refine g_istore_n (lv' := [(0, .int (nI q)), (1, .int (nI 1))]) hC [1, 0] dX6_ways_1 rfl (by decide) rfl ?_
  refine g_iconst (v := nI 2) hC dX6_ways_2 rfl ?_
  refine g_istore_n (lv' := [(0, .int (nI q)), (1, .int (nI 1)), (2, .int (nI 2))]) hC [1, 2, 0] dX6_ways_3 rfl (by decide) rfl ?_
  have L4 : ∀ (n : Nat) (i : Nat) (v : Nat), (2 ≤ i) → (i ≤ q + 1 ∨ i = 2) → (v = fac (i - 1)) → q + 2 - i < n → G p l e rm_X6_ways s m args below meth cd D A 0 0 Q 3 [] 4 [(0, .int (nI q)), (1, .int (nI v)), (2, .int (nI i))] [] := by
    intro n
    induction n with
    | zero => intro i v h2 hi hv hn; exact absurd hn (Nat.not_lt_zero _)
    | succ n ih4 =>
      intro i v h2 hi hv hn
      refine g_iload_n hC 2 dX6_ways_4 rfl rfl ?_
      refine g_iload_n hC 0 dX6_ways_5 rfl rfl ?_
      refine g_icmp_gt_n (a := i) (b := q) hC (by omega) (by omega) 19 dX6_ways_6 (by decide) (fun h6t => ?_) (fun h6f => ?_)
      · refine g_iload_n hC 1 dX6_ways_19 rfl rfl ?_
        subst hQ
        refine g_iret (v := nI v) hC () hr ?_ rfl dX6_ways_20
        rcases hi with hi | hi
        · have ei : i - 1 = q := by omega
          rw [hv, ei]
        · rw [hv, hi]
          rcases (show q = 0 ∨ q = 1 by omega) with e0 | e0 <;> rw [e0] <;> rfl
      refine g_iload_n hC 1 dX6_ways_9 rfl rfl ?_
      refine g_iload_n hC 2 dX6_ways_10 rfl rfl ?_
      refine g_imul_n (a := v) (b := i) hC dX6_ways_11 ?_
      refine g_istore_n (lv' := [(0, .int (nI q)), (1, .int (nI (v * i))), (2, .int (nI i))]) hC [1, 0, 2] dX6_ways_12 rfl (by decide) rfl ?_
      refine g_iinc (v := nI (i + 1)) (lv' := [(0, .int (nI q)), (1, .int (nI (v * i))), (2, .int (nI (i + 1)))]) hC 2 [1, 2, 0] dX6_ways_13 rfl (nI_add _ 1) (by decide) rfl ?_
      refine g_goto hC 4 dX6_ways_16 (by decide) ?_
      refine ih4 (i + 1) (v * i) ?_ ?_ ?_ ?_
      · omega
      · omega
      · rw [hv]
        obtain ⟨j, rfl⟩ : ∃ j, i = j + 1 := ⟨i - 1, by omega⟩
        rfl
      · omega
  refine L4 _ 2 1 ?_ ?_ ?_ (Nat.lt_succ_self _)
  · omega
  · omega
  · rfl

abbrev rm_X6_divisor : Room := { frames := 0, cells := 0, slots := 0, locals := 0 }
set_option maxRecDepth 100000 in
set_option maxHeartbeats 4000000 in
theorem c_X6_divisor (l : Launch) (D : va_G) (cI cZ : ClassId) (x : Nat) (y : Nat) (hx : x ≤ 100000) (hy : y ≤ 100000) : CtI l yX6_divisor wsX6_divisor rm_X6_divisor D cI cZ [.int (nI x), .int (nI y)] [] (fun r (_ : Unit) => r = nI (Nat.gcd y x)) (fun (_ : Unit) => []) 0 0 := by
  refine g_startI (ret := (some .int)) (own := RX6) (lv0 := [(0, .int (nI x)), (1, .int (nI y))]) (by decide) rfl rfl (Nat.le_of_ble_eq_true rfl) rfl ?_
  intro p e s m args below meth cd A Q hin hr hQ hC
  refine g_iload_n hC 0 dX6_divisor_0 rfl rfl ?_
  refine g_if_ge_n (a := x) hC (by omega) 9 dX6_divisor_1 (by decide) (fun _ => ?_) (fun q => q.elim)
  refine g_iload_n hC 0 dX6_divisor_9 rfl rfl ?_
  refine g_istore_n (lv' := [(0, .int (nI x)), (1, .int (nI y)), (2, .int (nI x))]) hC [1, 2, 0] dX6_divisor_10 rfl (by decide) rfl ?_
  refine g_iload_n hC 1 dX6_divisor_11 rfl rfl ?_
  refine g_istore_n (lv' := [(0, .int (nI x)), (1, .int (nI y)), (2, .int (nI x)), (3, .int (nI y))]) hC [1, 2, 3, 0] dX6_divisor_12 rfl (by decide) rfl ?_
  have L13 : ∀ (n : Nat) (x1 : Nat) (y1 : Nat), (x1 ≤ 100000) → (y1 ≤ 100000) → (Nat.gcd y x = Nat.gcd y1 x1) → y1 < n → G p l e rm_X6_divisor s m args below meth cd D A 0 0 Q 5 [] 13 [(0, .int (nI x)), (1, .int (nI y)), (2, .int (nI x1)), (3, .int (nI y1))] [] := by
    intro n
    induction n with
    | zero => intro x1 y1 hx1 hy1 hg hn; exact absurd hn (Nat.not_lt_zero _)
    | succ n ih13 =>
      intro x1 y1 hx1 hy1 hg hn
      refine g_iload_n hC 3 dX6_divisor_13 rfl rfl ?_
      refine g_if_eq_n (a := y1) hC (by omega) 30 dX6_divisor_14 (by decide) (fun h14t => ?_) (fun h14f => ?_)
      · refine g_iload_n hC 2 dX6_divisor_30 rfl rfl ?_
        subst hQ
        refine g_iret (v := nI x1) hC () hr ?_ rfl dX6_divisor_31
        rw [hg, h14t, Nat.gcd_zero_left]
      refine g_iload_n hC 2 dX6_divisor_17 rfl rfl ?_
      refine g_iload_n hC 3 dX6_divisor_18 rfl rfl ?_
      refine g_irem_n (a := x1) (b := y1) hC (by omega) (by omega) (by omega) dX6_divisor_19 ?_
      refine g_istore (lv' := [(0, .int (nI x)), (1, .int (nI y)), (2, .int (nI x1)), (3, .int (nI y1)), (4, .int (nI (x1 % y1)))]) hC [1, 2, 3, 4, 0] dX6_divisor_20 (by decide) rfl ?_
      refine g_iload_n hC 3 dX6_divisor_22 rfl rfl ?_
      refine g_istore_n (lv' := [(0, .int (nI x)), (1, .int (nI y)), (2, .int (nI y1)), (3, .int (nI y1)), (4, .int (nI (x1 % y1)))]) hC [1, 2, 0, 3, 4] dX6_divisor_23 rfl (by decide) rfl ?_
      refine g_iload hC 4 dX6_divisor_24 rfl ?_
      refine g_istore_n (lv' := [(0, .int (nI x)), (1, .int (nI y)), (2, .int (nI y1)), (3, .int (nI (x1 % y1))), (4, .int (nI (x1 % y1)))]) hC [1, 2, 3, 0, 4] dX6_divisor_26 rfl (by decide) rfl ?_
      have hml := Nat.mod_lt x1 (show 0 < y1 by omega)
      refine g_goto hC 13 dX6_divisor_27 (by decide) ?_
      refine g_lv [0, 1, 2, 3] (lv2 := [(0, .int (nI x)), (1, .int (nI y)), (2, .int (nI y1)), (3, .int (nI (x1 % y1)))]) rfl ?_
      refine ih13 y1 (x1 % y1) ?_ ?_ ?_ ?_
      · omega
      · have := Nat.mod_lt x1 (show 0 < y1 by omega); omega
      · rw [hg, Nat.gcd_rec]
      · omega
  refine L13 _ x y ?_ ?_ ?_ (Nat.lt_succ_self _)
  · omega
  · omega
  · rfl

abbrev rm_X6_fraction : Room := { frames := 1, cells := 0, slots := 0, locals := 24 }
set_option maxRecDepth 100000 in
set_option maxHeartbeats 4000000 in
theorem c_X6_fraction (l : Launch) (D : va_G) (cI cZ : ClassId) (o : Nat) (w : Nat) (ub : Nat) (ho : o ≤ 100000) (hw : w ≤ 100000) (hw0 : 0 < w) (hub : ub < 2) : CtI l yX6_fraction wsX6_fraction rm_X6_fraction D cI cZ [.int (nI o), .int (nI w), .int (nI ub)] [] (fun r (_ : Unit) => r = nI (fracR o w ub)) (fun (_ : Unit) => []) 0 0 := by
  refine g_startI (ret := (some .int)) (own := RX6) (lv0 := [(0, .int (nI o)), (1, .int (nI w)), (2, .int (nI ub))]) (by decide) rfl rfl (Nat.le_of_ble_eq_true rfl) rfl ?_
  intro p e s m args below meth cd A Q hin hr hQ hC
  have hg0 : 0 < Nat.gcd w o := Nat.gcd_pos_of_pos_left _ hw0
  have hg1 : Nat.gcd w o ≤ w := Nat.gcd_le_left _ hw0
  refine g_iload_n hC 0 dX6_fraction_0 rfl rfl ?_
  refine g_iload_n hC 1 dX6_fraction_1 rfl rfl ?_
  refine g_callSip (As := [.int (nI o), .int (nI w)]) (rest := []) hC (nI (Nat.gcd w o)) (c_X6_divisor l D cI cZ o w (by first | assumption | omega) (by first | assumption | omega)) (va_cwS 2 hC.1.2.2.2.2 gX6_fraction_X6_divisor rfl rfl rfl dS_X6_divisor ⟨Nat.le_of_ble_eq_true rfl, Nat.le_of_ble_eq_true rfl⟩) rfl rfl (Nat.le_of_ble_eq_true rfl) dX6_fraction_2 ⟨Nat.le_of_ble_eq_true rfl, Nat.le_of_ble_eq_true rfl⟩ [] rfl rfl ?_
  refine g_istore_n (lv' := [(0, .int (nI o)), (1, .int (nI w)), (2, .int (nI ub)), (3, .int (nI (Nat.gcd w o)))]) hC [1, 2, 3, 0] dX6_fraction_5 rfl (by decide) rfl ?_
  refine g_iload_n hC 2 dX6_fraction_6 rfl rfl ?_
  refine g_if_eq_n (a := ub) hC (by omega) 16 dX6_fraction_7 (by decide) (fun h7t => ?_) (fun h7f => ?_)
  · refine g_iload_n hC 1 dX6_fraction_16 rfl rfl ?_
    refine g_iload_n hC 3 dX6_fraction_17 rfl rfl ?_
    refine g_idiv_n (a := w) (b := (Nat.gcd w o)) hC (by omega) (by omega) (by omega) dX6_fraction_18 ?_
    subst hQ
    refine g_iret (v := nI (w / (Nat.gcd w o))) hC () hr ?_ rfl dX6_fraction_19
    rw [fracR, if_neg (by omega)]
  refine g_iload_n hC 0 dX6_fraction_10 rfl rfl ?_
  refine g_iload_n hC 3 dX6_fraction_11 rfl rfl ?_
  refine g_idiv_n (a := o) (b := (Nat.gcd w o)) hC (by omega) (by omega) (by omega) dX6_fraction_12 ?_
  refine g_goto hC 19 dX6_fraction_13 (by decide) ?_
  subst hQ
  refine g_iret (v := nI (o / (Nat.gcd w o))) hC () hr ?_ rfl dX6_fraction_19
  rw [fracR, if_pos (by omega)]

abbrev rm_X6_doesTo : Room := { frames := 3, cells := 0, slots := 0, locals := 68 }
set_option maxRecDepth 100000 in
set_option maxHeartbeats 4000000 in
theorem c_X6_doesTo (l : Launch) (D : va_G) (cI cZ : ClassId) (mo : Nat) (rm : Nat → Nat) (tl : Nat) (pl : Int32) (np : Nat) (nq : Nat) (nd : Nat) (rt : Int32) (rp : Int32) (rq : Int32) (rd : Int32) (cnt : Nat) (na : Nat) (sd : Int64) (rw : Int32) (rx : Int32) (tm : Int32) (tf : Int32) (sm : Int32) (sf : Int32) (P : Nat → Nat → Nat) (g : Nat → Int32) (x : Nat) (z : Nat) (hW : WFP np nq nd P) (hx : x < 10) (hz : z < 10) (hx3 : x ≠ 3) (hx5 : x ≠ 5) (hx0 : x = 0 → z ≠ 0) : CtI l yX6_doesTo wsX6_doesTo rm_X6_doesTo D cI cZ [.ref mo, .int (nI x), .int (nI z)] [(mo, o6 rm (nI tl) pl (nI np) (nI nq) (nI nd) rt rp rq rd (nI cnt) (nI na) sd rw rx tm tf sm sf), (rm 1, .inl (cI, 5, .inl (fun k_ => nI (P 0 k_)))), (rm 2, .inl (cI, 5, .inl (fun k_ => nI (P 1 k_)))), (rm 3, .inl (cI, 5, .inl (fun k_ => nI (P 2 k_)))), (rm 11, .inl (cI, 20, .inl (mp g)))] (fun r (_ : Unit) => r = bI (doOK P np nq nd g x 0 z)) (fun (_ : Unit) => [(mo, o6 rm (nI tl) pl (nI np) (nI nq) (nI nd) rt rp rq rd (nI cnt) (nI na) sd rw rx tm tf sm sf), (rm 1, .inl (cI, 5, .inl (fun k_ => nI (P 0 k_)))), (rm 2, .inl (cI, 5, .inl (fun k_ => nI (P 1 k_)))), (rm 3, .inl (cI, 5, .inl (fun k_ => nI (P 2 k_)))), (rm 11, .inl (cI, 20, .inl (mp (doF P np nq nd g x 0 z))))]) 0 0 := by
  refine g_startI (ret := (some .boolean)) (own := RX6) (lv0 := [(0, .ref mo), (1, .int (nI x)), (2, .int (nI z))]) (by decide) rfl rfl (Nat.le_of_ble_eq_true rfl) rfl ?_
  intro p e s m args below meth cd A Q hin hr hQ hC
  have hcw6 : ∀ w ∈ wsX60, w ∈ wsX6_doesTo := fun _ h => List.mem_cons_of_mem _ (List.mem_append_right _ h)
  have w1 := hC.1.2.2.2.2 (.fieldLink "PluckBrokerModel" 43 "PluckBrokerModel" "trial" "[I") (List.mem_of_getElem? (i := 1) rfl)
  obtain ⟨⟨hnp, hnq, hnd⟩, hq4, hd5⟩ := id hW
  refine g_iload_n hC 1 dX6_doesTo_0 rfl rfl ?_
  refine g_iconst (v := nI 4) hC dX6_doesTo_1 rfl ?_
  refine g_icmp_ne_n (a := x) (b := 4) hC (by omega) (by omega) 32 dX6_doesTo_2 (by decide) (fun h2t => ?_) (fun h2f => ?_)
  · refine g_aload_n hC 0 dX6_doesTo_32 rfl rfl ?_
    refine g_iload_n hC 2 dX6_doesTo_33 rfl rfl ?_
    refine g_callVip (As := [.int (nI z)]) (rest := []) hC (bI (¬ inR (nI z) nq)) (c_X6_noQuality l D cI cZ mo rm tl pl np nq nd rt rp rq rd cnt na sd rw rx tm tf sm sf (nI z) (by omega)) (cwV 1 hC.1.2.2.2.2 gX6_doesTo_X6_noQuality rfl rfl rfl dV_X6_noQuality ⟨Nat.le_of_ble_eq_true rfl, Nat.le_of_ble_eq_true rfl⟩) rfl rfl rfl rfl (Nat.le_of_ble_eq_true rfl) dX6_doesTo_34 ⟨Nat.le_of_ble_eq_true rfl, Nat.le_of_ble_eq_true rfl⟩ [0] rfl rfl ?_
    refine g_if_eq_b hC 42 dX6_doesTo_37 (by decide) (fun h37t => ?_) (fun h37f => ?_)
    · have hv := (inR_kn (by omega) (by omega)).mp (Decidable.not_not.mp h37t)
      refine g_iload_n hC 1 dX6_doesTo_42 rfl rfl ?_
      refine g_iconst (v := nI 1) hC dX6_doesTo_43 rfl ?_
      refine g_icmp_ne_n (a := x) (b := 1) hC (by omega) (by omega) 70 dX6_doesTo_44 (by decide) (fun h44t => ?_) (fun h44f => ?_)
      · refine g_iload_n hC 1 dX6_doesTo_70 rfl rfl ?_
        refine g_iconst (v := nI 2) hC dX6_doesTo_71 rfl ?_
        refine g_icmp_ne_n (a := x) (b := 2) hC (by omega) (by omega) 98 dX6_doesTo_72 (by decide) (fun h72t => ?_) (fun h72f => ?_)
        · have no : ¬ doOK P np nq nd g x 0 z := do_el hx3 hx5 h2t h44t h72t hx0
          have ecell : (mp g) = (mp (doF P np nq nd g x 0 z)) := by rw [doF_no no]
          refine g_ws (ws2 := [(mo, o6 rm (nI tl) pl (nI np) (nI nq) (nI nd) rt rp rq rd (nI cnt) (nI na) sd rw rx tm tf sm sf), (rm 1, .inl (cI, 5, .inl (fun k_ => nI (P 0 k_)))), (rm 2, .inl (cI, 5, .inl (fun k_ => nI (P 1 k_)))), (rm 3, .inl (cI, 5, .inl (fun k_ => nI (P 2 k_)))), (rm 11, .inl (cI, 20, .inl (mp (doF P np nq nd g x 0 z))))]) (congrArg (fun zz : Nat → Int32 => ([(mo, o6 rm (nI tl) pl (nI np) (nI nq) (nI nd) rt rp rq rd (nI cnt) (nI na) sd rw rx tm tf sm sf), (rm 1, .inl (cI, 5, .inl (fun k_ => nI (P 0 k_)))), (rm 2, .inl (cI, 5, .inl (fun k_ => nI (P 1 k_)))), (rm 3, .inl (cI, 5, .inl (fun k_ => nI (P 2 k_)))), (rm 11, .inl (cI, 20, .inl zz))] : va_W)) ecell) ?_
          refine g_iconst (v := nI 0) hC dX6_doesTo_98 rfl ?_
          subst hQ
          refine g_zret (v := nI 0) hC () hr (by decide +kernel) ?_ rfl dX6_doesTo_99
          exact (bI_f no).symm
        refine g_aload_n hC 0 dX6_doesTo_75 rfl rfl ?_
        refine g_aload_n hC 0 dX6_doesTo_76 rfl rfl ?_
        refine g_get (C := RX6) (T := TX6) (N := 38) (ci := 6) (v := .ref (rm 11)) hC hcw6 0 rfl rfl 21 (by decide) w1 (fun _ h => h) rfl dX6_doesTo_77 ?_
        refine g_iload_n hC 2 dX6_doesTo_80 rfl rfl ?_
        refine g_callVip (As := [.ref (rm 11), .int (nI z)]) (rest := []) hC (bI (canR P g z)) (c_X6_canRedeem l D cI cZ mo rm tl pl np nq nd rt rp rq rd cnt na sd rw rx tm tf sm sf P (rm 11) g z (by first | assumption | omega) (by first | assumption | omega)) (cwV 2 hC.1.2.2.2.2 gX6_doesTo_X6_canRedeem rfl rfl rfl dV_X6_canRedeem ⟨Nat.le_of_ble_eq_true rfl, Nat.le_of_ble_eq_true rfl⟩) rfl rfl rfl rfl (Nat.le_of_ble_eq_true rfl) dX6_doesTo_81 ⟨Nat.le_of_ble_eq_true rfl, Nat.le_of_ble_eq_true rfl⟩ [0, 1, 2, 3, 4] rfl rfl ?_
        refine g_if_eq_b hC 98 dX6_doesTo_84 (by decide) (fun h84t => ?_) (fun h84f => ?_)
        · have no : ¬ doOK P np nq nd g x 0 z := fun w => h84t ((do2 hv).mp (by rw [h72f] at w; exact w))
          have ecell : (mp g) = (mp (doF P np nq nd g x 0 z)) := by rw [doF_no no]
          refine g_ws (ws2 := [(mo, o6 rm (nI tl) pl (nI np) (nI nq) (nI nd) rt rp rq rd (nI cnt) (nI na) sd rw rx tm tf sm sf), (rm 1, .inl (cI, 5, .inl (fun k_ => nI (P 0 k_)))), (rm 2, .inl (cI, 5, .inl (fun k_ => nI (P 1 k_)))), (rm 3, .inl (cI, 5, .inl (fun k_ => nI (P 2 k_)))), (rm 11, .inl (cI, 20, .inl (mp (doF P np nq nd g x 0 z))))]) (congrArg (fun zz : Nat → Int32 => ([(mo, o6 rm (nI tl) pl (nI np) (nI nq) (nI nd) rt rp rq rd (nI cnt) (nI na) sd rw rx tm tf sm sf), (rm 1, .inl (cI, 5, .inl (fun k_ => nI (P 0 k_)))), (rm 2, .inl (cI, 5, .inl (fun k_ => nI (P 1 k_)))), (rm 3, .inl (cI, 5, .inl (fun k_ => nI (P 2 k_)))), (rm 11, .inl (cI, 20, .inl zz))] : va_W)) ecell) ?_
          refine g_iconst (v := nI 0) hC dX6_doesTo_98 rfl ?_
          subst hQ
          refine g_zret (v := nI 0) hC () hr (by decide +kernel) ?_ rfl dX6_doesTo_99
          exact (bI_f no).symm
        refine g_aload_n hC 0 dX6_doesTo_87 rfl rfl ?_
        refine g_aload_n hC 0 dX6_doesTo_88 rfl rfl ?_
        refine g_get (C := RX6) (T := TX6) (N := 38) (ci := 6) (v := .ref (rm 11)) hC hcw6 0 rfl rfl 21 (by decide) w1 (fun _ h => h) rfl dX6_doesTo_89 ?_
        refine g_iload_n hC 2 dX6_doesTo_92 rfl rfl ?_
        refine g_callVv (As := [.ref (rm 11), .int (nI z)]) (rest := []) hC (c_X6_goRedeem l D cI cZ mo rm tl pl np nq nd rt rp rq rd cnt na sd rw rx tm tf sm sf P (rm 11) g z (by first | assumption | omega) (by first | assumption | omega)) (cwV 2 hC.1.2.2.2.2 gX6_doesTo_X6_goRedeem rfl rfl rfl dV_X6_goRedeem ⟨Nat.le_of_ble_eq_true rfl, Nat.le_of_ble_eq_true rfl⟩) rfl rfl rfl rfl (Nat.le_of_ble_eq_true rfl) dX6_doesTo_93 ⟨Nat.le_of_ble_eq_true rfl, Nat.le_of_ble_eq_true rfl⟩ [0, 1, 2, 3, 4] [] [0, 1, 2, 3, 4] (fun (_ : Unit) => [(mo, o6 rm (nI tl) pl (nI np) (nI nq) (nI nd) rt rp rq rd (nI cnt) (nI na) sd rw rx tm tf sm sf), (rm 1, .inl (cI, 5, .inl (fun k_ => nI (P 0 k_)))), (rm 2, .inl (cI, 5, .inl (fun k_ => nI (P 1 k_)))), (rm 3, .inl (cI, 5, .inl (fun k_ => nI (P 2 k_)))), ((rm 11), .inl (cI, 20, .inl (mp (redeemF P g z))))]) rfl rfl rfl (fun _ => rfl) (fun z93 hp93 => ?_)
        refine g_is (ws2 := [(mo, o6 rm (nI tl) pl (nI np) (nI nq) (nI nd) rt rp rq rd (nI cnt) (nI na) sd rw rx tm tf sm sf), (rm 1, .inl (cI, 5, .inl (fun k_ => nI (P 0 k_)))), (rm 2, .inl (cI, 5, .inl (fun k_ => nI (P 1 k_)))), (rm 3, .inl (cI, 5, .inl (fun k_ => nI (P 2 k_)))), ((rm 11), .inl (cI, 20, .inl (mp (redeemF P g z))))]) (lv2 := [(0, .ref mo), (1, .int (nI x)), (2, .int (nI z))]) (st2 := []) rfl rfl rfl ?_
        refine g_iconst (v := nI 1) hC dX6_doesTo_96 rfl ?_
        have ecell : (mp (redeemF P g z)) = (mp (doF P np nq nd g x 0 z)) := by rw [h72f, do2f hv, tryR, if_pos h84f]
        refine g_ws (ws2 := [(mo, o6 rm (nI tl) pl (nI np) (nI nq) (nI nd) rt rp rq rd (nI cnt) (nI na) sd rw rx tm tf sm sf), (rm 1, .inl (cI, 5, .inl (fun k_ => nI (P 0 k_)))), (rm 2, .inl (cI, 5, .inl (fun k_ => nI (P 1 k_)))), (rm 3, .inl (cI, 5, .inl (fun k_ => nI (P 2 k_)))), ((rm 11), .inl (cI, 20, .inl (mp (doF P np nq nd g x 0 z))))]) (congrArg (fun zz : Nat → Int32 => ([(mo, o6 rm (nI tl) pl (nI np) (nI nq) (nI nd) rt rp rq rd (nI cnt) (nI na) sd rw rx tm tf sm sf), (rm 1, .inl (cI, 5, .inl (fun k_ => nI (P 0 k_)))), (rm 2, .inl (cI, 5, .inl (fun k_ => nI (P 1 k_)))), (rm 3, .inl (cI, 5, .inl (fun k_ => nI (P 2 k_)))), ((rm 11), .inl (cI, 20, .inl zz))] : va_W)) ecell) ?_
        subst hQ
        refine g_zret (v := nI 1) hC () hr (by decide +kernel) ?_ rfl dX6_doesTo_97
        exact (bI_t (by rw [h72f]; exact (do2 hv).mpr h84f)).symm
      refine g_aload_n hC 0 dX6_doesTo_47 rfl rfl ?_
      refine g_aload_n hC 0 dX6_doesTo_48 rfl rfl ?_
      refine g_get (C := RX6) (T := TX6) (N := 38) (ci := 6) (v := .ref (rm 11)) hC hcw6 0 rfl rfl 21 (by decide) w1 (fun _ h => h) rfl dX6_doesTo_49 ?_
      refine g_iload_n hC 2 dX6_doesTo_52 rfl rfl ?_
      refine g_callVip (As := [.ref (rm 11), .int (nI z)]) (rest := []) hC (bI (canP P g z)) (c_X6_canPledge l D cI cZ mo rm tl pl np nq nd rt rp rq rd cnt na sd rw rx tm tf sm sf P (rm 11) g z (by first | assumption | omega) (by first | assumption | omega)) (cwV 2 hC.1.2.2.2.2 gX6_doesTo_X6_canPledge rfl rfl rfl dV_X6_canPledge ⟨Nat.le_of_ble_eq_true rfl, Nat.le_of_ble_eq_true rfl⟩) rfl rfl rfl rfl (Nat.le_of_ble_eq_true rfl) dX6_doesTo_53 ⟨Nat.le_of_ble_eq_true rfl, Nat.le_of_ble_eq_true rfl⟩ [0, 2, 4] rfl rfl ?_
      refine g_if_eq_b hC 70 dX6_doesTo_56 (by decide) (fun h56t => ?_) (fun h56f => ?_)
      · refine g_iload_n hC 1 dX6_doesTo_70 rfl rfl ?_
        refine g_iconst (v := nI 2) hC dX6_doesTo_71 rfl ?_
        refine g_icmp_ne_n (a := x) (b := 2) hC (by omega) (by omega) 98 dX6_doesTo_72 (by decide) (fun h72t => ?_) (fun h72f => ?_)
        · have no : ¬ doOK P np nq nd g x 0 z := fun w => h56t ((do1 hv).mp (by rw [h44f] at w; exact w))
          have ecell : (mp g) = (mp (doF P np nq nd g x 0 z)) := by rw [doF_no no]
          refine g_ws (ws2 := [(mo, o6 rm (nI tl) pl (nI np) (nI nq) (nI nd) rt rp rq rd (nI cnt) (nI na) sd rw rx tm tf sm sf), (rm 1, .inl (cI, 5, .inl (fun k_ => nI (P 0 k_)))), (rm 2, .inl (cI, 5, .inl (fun k_ => nI (P 1 k_)))), (rm 3, .inl (cI, 5, .inl (fun k_ => nI (P 2 k_)))), (rm 11, .inl (cI, 20, .inl (mp (doF P np nq nd g x 0 z))))]) (congrArg (fun zz : Nat → Int32 => ([(mo, o6 rm (nI tl) pl (nI np) (nI nq) (nI nd) rt rp rq rd (nI cnt) (nI na) sd rw rx tm tf sm sf), (rm 1, .inl (cI, 5, .inl (fun k_ => nI (P 0 k_)))), (rm 2, .inl (cI, 5, .inl (fun k_ => nI (P 1 k_)))), (rm 3, .inl (cI, 5, .inl (fun k_ => nI (P 2 k_)))), (rm 11, .inl (cI, 20, .inl zz))] : va_W)) ecell) ?_
          refine g_iconst (v := nI 0) hC dX6_doesTo_98 rfl ?_
          subst hQ
          refine g_zret (v := nI 0) hC () hr (by decide +kernel) ?_ rfl dX6_doesTo_99
          exact (bI_f no).symm
        omega
      refine g_aload_n hC 0 dX6_doesTo_59 rfl rfl ?_
      refine g_aload_n hC 0 dX6_doesTo_60 rfl rfl ?_
      refine g_get (C := RX6) (T := TX6) (N := 38) (ci := 6) (v := .ref (rm 11)) hC hcw6 0 rfl rfl 21 (by decide) w1 (fun _ h => h) rfl dX6_doesTo_61 ?_
      refine g_iload_n hC 2 dX6_doesTo_64 rfl rfl ?_
      refine g_callVv (As := [.ref (rm 11), .int (nI z)]) (rest := []) hC (c_X6_goPledge l D cI cZ mo rm tl pl np nq nd rt rp rq rd cnt na sd rw rx tm tf sm sf P (rm 11) g z (by first | assumption | omega) (by first | assumption | omega)) (cwV 2 hC.1.2.2.2.2 gX6_doesTo_X6_goPledge rfl rfl rfl dV_X6_goPledge ⟨Nat.le_of_ble_eq_true rfl, Nat.le_of_ble_eq_true rfl⟩) rfl rfl rfl rfl (Nat.le_of_ble_eq_true rfl) dX6_doesTo_65 ⟨Nat.le_of_ble_eq_true rfl, Nat.le_of_ble_eq_true rfl⟩ [0, 1, 2, 4] [3] [1, 2, 3, 0, 4] (fun (_ : Unit) => [(mo, o6 rm (nI tl) pl (nI np) (nI nq) (nI nd) rt rp rq rd (nI cnt) (nI na) sd rw rx tm tf sm sf), (rm 1, .inl (cI, 5, .inl (fun k_ => nI (P 0 k_)))), (rm 2, .inl (cI, 5, .inl (fun k_ => nI (P 1 k_)))), (rm 3, .inl (cI, 5, .inl (fun k_ => nI (P 2 k_)))), ((rm 11), .inl (cI, 20, .inl (mp (pledgeF P g z))))]) rfl rfl rfl (fun _ => rfl) (fun z65 hp65 => ?_)
      refine g_is (ws2 := [(mo, o6 rm (nI tl) pl (nI np) (nI nq) (nI nd) rt rp rq rd (nI cnt) (nI na) sd rw rx tm tf sm sf), (rm 1, .inl (cI, 5, .inl (fun k_ => nI (P 0 k_)))), (rm 2, .inl (cI, 5, .inl (fun k_ => nI (P 1 k_)))), (rm 3, .inl (cI, 5, .inl (fun k_ => nI (P 2 k_)))), ((rm 11), .inl (cI, 20, .inl (mp (pledgeF P g z))))]) (lv2 := [(0, .ref mo), (1, .int (nI x)), (2, .int (nI z))]) (st2 := []) rfl rfl rfl ?_
      refine g_iconst (v := nI 1) hC dX6_doesTo_68 rfl ?_
      have ecell : (mp (pledgeF P g z)) = (mp (doF P np nq nd g x 0 z)) := by rw [h44f, do1f hv, tryP, if_pos h56f]
      refine g_ws (ws2 := [(mo, o6 rm (nI tl) pl (nI np) (nI nq) (nI nd) rt rp rq rd (nI cnt) (nI na) sd rw rx tm tf sm sf), (rm 1, .inl (cI, 5, .inl (fun k_ => nI (P 0 k_)))), (rm 2, .inl (cI, 5, .inl (fun k_ => nI (P 1 k_)))), (rm 3, .inl (cI, 5, .inl (fun k_ => nI (P 2 k_)))), ((rm 11), .inl (cI, 20, .inl (mp (doF P np nq nd g x 0 z))))]) (congrArg (fun zz : Nat → Int32 => ([(mo, o6 rm (nI tl) pl (nI np) (nI nq) (nI nd) rt rp rq rd (nI cnt) (nI na) sd rw rx tm tf sm sf), (rm 1, .inl (cI, 5, .inl (fun k_ => nI (P 0 k_)))), (rm 2, .inl (cI, 5, .inl (fun k_ => nI (P 1 k_)))), (rm 3, .inl (cI, 5, .inl (fun k_ => nI (P 2 k_)))), ((rm 11), .inl (cI, 20, .inl zz))] : va_W)) ecell) ?_
      subst hQ
      refine g_zret (v := nI 1) hC () hr (by decide +kernel) ?_ rfl dX6_doesTo_69
      exact (bI_t (by rw [h44f]; exact (do1 hv).mpr h56f)).symm
    have no : ¬ doOK P np nq nd g x 0 z := do_nq hx3 hx5 h2t hx0 (fun q => h37f (inR_k (by omega) q))
    have ecell : (mp g) = (mp (doF P np nq nd g x 0 z)) := by rw [doF_no no]
    refine g_ws (ws2 := [(mo, o6 rm (nI tl) pl (nI np) (nI nq) (nI nd) rt rp rq rd (nI cnt) (nI na) sd rw rx tm tf sm sf), (rm 1, .inl (cI, 5, .inl (fun k_ => nI (P 0 k_)))), (rm 2, .inl (cI, 5, .inl (fun k_ => nI (P 1 k_)))), (rm 3, .inl (cI, 5, .inl (fun k_ => nI (P 2 k_)))), (rm 11, .inl (cI, 20, .inl (mp (doF P np nq nd g x 0 z))))]) (congrArg (fun zz : Nat → Int32 => ([(mo, o6 rm (nI tl) pl (nI np) (nI nq) (nI nd) rt rp rq rd (nI cnt) (nI na) sd rw rx tm tf sm sf), (rm 1, .inl (cI, 5, .inl (fun k_ => nI (P 0 k_)))), (rm 2, .inl (cI, 5, .inl (fun k_ => nI (P 1 k_)))), (rm 3, .inl (cI, 5, .inl (fun k_ => nI (P 2 k_)))), (rm 11, .inl (cI, 20, .inl zz))] : va_W)) ecell) ?_
    refine g_iconst (v := nI 0) hC dX6_doesTo_40 rfl ?_
    subst hQ
    refine g_zret (v := nI 0) hC () hr (by decide +kernel) ?_ rfl dX6_doesTo_41
    exact (bI_f no).symm
  have hk : doOK P np nq nd g x 0 z ↔ (z < nd ∧ g (15 + z) = nI 1) := by rw [h2f]; exact do4
  refine g_aload_n hC 0 dX6_doesTo_5 rfl rfl ?_
  refine g_iload_n hC 2 dX6_doesTo_6 rfl rfl ?_
  refine g_callVip (As := [.int (nI z)]) (rest := []) hC (bI (¬ inR (nI z) nd)) (c_X6_noDeed l D cI cZ mo rm tl pl np nq nd rt rp rq rd cnt na sd rw rx tm tf sm sf (nI z) (by omega)) (cwV 1 hC.1.2.2.2.2 gX6_doesTo_X6_noDeed rfl rfl rfl dV_X6_noDeed ⟨Nat.le_of_ble_eq_true rfl, Nat.le_of_ble_eq_true rfl⟩) rfl rfl rfl rfl (Nat.le_of_ble_eq_true rfl) dX6_doesTo_7 ⟨Nat.le_of_ble_eq_true rfl, Nat.le_of_ble_eq_true rfl⟩ [0] rfl rfl ?_
  refine g_if_ne_b hC 30 dX6_doesTo_10 (by decide) (fun h10t => ?_) (fun h10f => ?_)
  · refine g_iconst (v := nI 0) hC dX6_doesTo_30 rfl ?_
    have ecell : (mp g) = (mp (doF P np nq nd g x 0 z)) := by rw [h2f]; exact congrArg mp do4f.symm
    refine g_ws (ws2 := [(mo, o6 rm (nI tl) pl (nI np) (nI nq) (nI nd) rt rp rq rd (nI cnt) (nI na) sd rw rx tm tf sm sf), (rm 1, .inl (cI, 5, .inl (fun k_ => nI (P 0 k_)))), (rm 2, .inl (cI, 5, .inl (fun k_ => nI (P 1 k_)))), (rm 3, .inl (cI, 5, .inl (fun k_ => nI (P 2 k_)))), (rm 11, .inl (cI, 20, .inl (mp (doF P np nq nd g x 0 z))))]) (congrArg (fun zz : Nat → Int32 => ([(mo, o6 rm (nI tl) pl (nI np) (nI nq) (nI nd) rt rp rq rd (nI cnt) (nI na) sd rw rx tm tf sm sf), (rm 1, .inl (cI, 5, .inl (fun k_ => nI (P 0 k_)))), (rm 2, .inl (cI, 5, .inl (fun k_ => nI (P 1 k_)))), (rm 3, .inl (cI, 5, .inl (fun k_ => nI (P 2 k_)))), (rm 11, .inl (cI, 20, .inl zz))] : va_W)) ecell) ?_
    subst hQ
    refine g_zret (v := nI 0) hC () hr (by decide +kernel) ?_ rfl dX6_doesTo_31
    exact (bI_f (fun w => h10t (inR_k (by omega) (hk.mp w).1))).symm
  have hv := (inR_kn (by omega) (by omega)).mp (Decidable.not_not.mp h10f)
  refine g_aload_n hC 0 dX6_doesTo_13 rfl rfl ?_
  refine g_get (C := RX6) (T := TX6) (N := 38) (ci := 6) (v := .ref (rm 11)) hC hcw6 0 rfl rfl 21 (by decide) w1 (fun _ h => h) rfl dX6_doesTo_14 ?_
  refine g_bipush (v := nI 14) hC dX6_doesTo_17 (by decide +kernel) ?_
  refine g_iload_n hC 2 dX6_doesTo_19 rfl rfl ?_
  refine g_iadd_n (a := 14) (b := z) hC dX6_doesTo_20 ?_
  refine g_iald hC 4 rfl (14 + z) rfl (by omega) (by decide) dX6_doesTo_21 ?_
  refine g_top (y := g (15 + z)) (mp_14 _ (by omega)) ?_
  refine g_iconst (v := nI 1) hC dX6_doesTo_22 rfl ?_
  refine g_icmp_ne hC 30 dX6_doesTo_23 (by decide) (fun h23t => ?_) (fun h23f => ?_)
  · refine g_iconst (v := nI 0) hC dX6_doesTo_30 rfl ?_
    have ecell : (mp g) = (mp (doF P np nq nd g x 0 z)) := by rw [h2f]; exact congrArg mp do4f.symm
    refine g_ws (ws2 := [(mo, o6 rm (nI tl) pl (nI np) (nI nq) (nI nd) rt rp rq rd (nI cnt) (nI na) sd rw rx tm tf sm sf), (rm 1, .inl (cI, 5, .inl (fun k_ => nI (P 0 k_)))), (rm 2, .inl (cI, 5, .inl (fun k_ => nI (P 1 k_)))), (rm 3, .inl (cI, 5, .inl (fun k_ => nI (P 2 k_)))), (rm 11, .inl (cI, 20, .inl (mp (doF P np nq nd g x 0 z))))]) (congrArg (fun zz : Nat → Int32 => ([(mo, o6 rm (nI tl) pl (nI np) (nI nq) (nI nd) rt rp rq rd (nI cnt) (nI na) sd rw rx tm tf sm sf), (rm 1, .inl (cI, 5, .inl (fun k_ => nI (P 0 k_)))), (rm 2, .inl (cI, 5, .inl (fun k_ => nI (P 1 k_)))), (rm 3, .inl (cI, 5, .inl (fun k_ => nI (P 2 k_)))), (rm 11, .inl (cI, 20, .inl zz))] : va_W)) ecell) ?_
    subst hQ
    refine g_zret (v := nI 0) hC () hr (by decide +kernel) ?_ rfl dX6_doesTo_31
    exact (bI_f (fun w => h23t (hk.mp w).2)).symm
  refine g_iconst (v := nI 1) hC dX6_doesTo_26 rfl ?_
  refine g_goto hC 31 dX6_doesTo_27 (by decide) ?_
  have ecell : (mp g) = (mp (doF P np nq nd g x 0 z)) := by rw [h2f]; exact congrArg mp do4f.symm
  refine g_ws (ws2 := [(mo, o6 rm (nI tl) pl (nI np) (nI nq) (nI nd) rt rp rq rd (nI cnt) (nI na) sd rw rx tm tf sm sf), (rm 1, .inl (cI, 5, .inl (fun k_ => nI (P 0 k_)))), (rm 2, .inl (cI, 5, .inl (fun k_ => nI (P 1 k_)))), (rm 3, .inl (cI, 5, .inl (fun k_ => nI (P 2 k_)))), (rm 11, .inl (cI, 20, .inl (mp (doF P np nq nd g x 0 z))))]) (congrArg (fun zz : Nat → Int32 => ([(mo, o6 rm (nI tl) pl (nI np) (nI nq) (nI nd) rt rp rq rd (nI cnt) (nI na) sd rw rx tm tf sm sf), (rm 1, .inl (cI, 5, .inl (fun k_ => nI (P 0 k_)))), (rm 2, .inl (cI, 5, .inl (fun k_ => nI (P 1 k_)))), (rm 3, .inl (cI, 5, .inl (fun k_ => nI (P 2 k_)))), (rm 11, .inl (cI, 20, .inl zz))] : va_W)) ecell) ?_
  subst hQ
  refine g_zret (v := nI 1) hC () hr (by decide +kernel) ?_ rfl dX6_doesTo_31
  exact (bI_t (hk.mpr ⟨hv, h23f⟩)).symm

abbrev rm_X6_does : Room := { frames := 4, cells := 0, slots := 0, locals := 90 }
set_option maxRecDepth 100000 in
set_option maxHeartbeats 4000000 in
theorem c_X6_does (l : Launch) (D : va_G) (cI cZ : ClassId) (mo : Nat) (rm : Nat → Nat) (tl : Nat) (pl : Int32) (np : Nat) (nq : Nat) (nd : Nat) (rt : Int32) (rp : Int32) (rq : Int32) (rd : Int32) (cnt : Nat) (na : Nat) (sd : Int64) (rw : Int32) (rx : Int32) (tm : Int32) (tf : Int32) (sm : Int32) (sf : Int32) (P : Nat → Nat → Nat) (g : Nat → Int32) (t0 : Nat) (t : Nat) (hW : WFP np nq nd P) (ht0 : t0 < 1000) (hFr : Fr P nd g t) (ht : t ≤ 300) : CtI l yX6_does wsX6_does rm_X6_does D cI cZ [.ref mo, .int (nI t0)] [(mo, o6 rm (nI tl) pl (nI np) (nI nq) (nI nd) rt rp rq rd (nI cnt) (nI na) sd rw rx tm tf sm sf), (rm 1, .inl (cI, 5, .inl (fun k_ => nI (P 0 k_)))), (rm 2, .inl (cI, 5, .inl (fun k_ => nI (P 1 k_)))), (rm 3, .inl (cI, 5, .inl (fun k_ => nI (P 2 k_)))), (rm 4, .inl (cI, 5, .inl (fun k_ => nI (P 3 k_)))), (rm 5, .inl (cI, 5, .inl (fun k_ => nI (P 4 k_)))), (rm 6, .inl (cI, 5, .inl (fun k_ => nI (P 5 k_)))), (rm 11, .inl (cI, 20, .inl (mp g)))] (fun r (_ : Unit) => r = bI (doOK P np nq nd g (t0 / 100) (t0 / 10 % 10) (t0 % 10))) (fun (_ : Unit) => [(mo, o6 rm (nI tl) pl (nI np) (nI nq) (nI nd) rt rp rq rd (nI cnt) (nI na) sd rw rx tm tf sm sf), (rm 1, .inl (cI, 5, .inl (fun k_ => nI (P 0 k_)))), (rm 2, .inl (cI, 5, .inl (fun k_ => nI (P 1 k_)))), (rm 3, .inl (cI, 5, .inl (fun k_ => nI (P 2 k_)))), (rm 4, .inl (cI, 5, .inl (fun k_ => nI (P 3 k_)))), (rm 5, .inl (cI, 5, .inl (fun k_ => nI (P 4 k_)))), (rm 6, .inl (cI, 5, .inl (fun k_ => nI (P 5 k_)))), (rm 11, .inl (cI, 20, .inl (mp (doF P np nq nd g (t0 / 100) (t0 / 10 % 10) (t0 % 10)))))]) 0 0 := by
  refine g_startI (ret := (some .boolean)) (own := RX6) (lv0 := [(0, .ref mo), (1, .int (nI t0))]) (by decide) rfl rfl (Nat.le_of_ble_eq_true rfl) rfl ?_
  intro p e s m args below meth cd A Q hin hr hQ hC
  have hcw6 : ∀ w ∈ wsX60, w ∈ wsX6_does := fun _ h => List.mem_cons_of_mem _ (List.mem_append_right _ h)
  have w1 := hC.1.2.2.2.2 (.fieldLink "PluckBrokerModel" 43 "PluckBrokerModel" "trial" "[I") (List.mem_of_getElem? (i := 1) rfl)
  obtain ⟨⟨hnp, hnq, hnd⟩, hq4, hd5⟩ := id hW
  obtain ⟨x, hx⟩ : ∃ x, x = t0 / 100 := ⟨_, rfl⟩
  obtain ⟨y, hy⟩ : ∃ y, y = t0 / 10 % 10 := ⟨_, rfl⟩
  obtain ⟨z, hz⟩ : ∃ z, z = t0 % 10 := ⟨_, rfl⟩
  have hx10 : x < 10 := by omega
  have hy10 : y < 10 := by omega
  have hz10 : z < 10 := by omega
  refine g_iload_n hC 1 dX6_does_0 rfl rfl ?_
  refine g_bipush (v := nI 100) hC dX6_does_1 (by decide +kernel) ?_
  refine g_idiv_n (a := t0) (b := 100) hC (by omega) (by omega) (by omega) dX6_does_3 ?_
  refine g_istore_n (lv' := [(0, .ref mo), (1, .int (nI t0)), (2, .int (nI (t0 / 100)))]) hC [1, 2, 0] dX6_does_4 rfl (by decide) rfl ?_
  have elv : (nI (t0 / 100)) = nI x := by rw [hx]
  refine g_lve (congrArg (fun zz : Int32 => ([(0, .ref mo), (1, .int (nI t0)), (2, .int zz)] : List (Nat × Value))) elv) ?_
  refine g_iload_n hC 1 dX6_does_5 rfl rfl ?_
  refine g_bipush (v := nI 10) hC dX6_does_6 (by decide +kernel) ?_
  refine g_idiv_n (a := t0) (b := 10) hC (by omega) (by omega) (by omega) dX6_does_8 ?_
  refine g_bipush (v := nI 10) hC dX6_does_9 (by decide +kernel) ?_
  refine g_irem_n (a := (t0 / 10)) (b := 10) hC (by omega) (by omega) (by omega) dX6_does_11 ?_
  refine g_istore_n (lv' := [(0, .ref mo), (1, .int (nI t0)), (2, .int (nI x)), (3, .int (nI ((t0 / 10) % 10)))]) hC [1, 2, 3, 0] dX6_does_12 rfl (by decide) rfl ?_
  have elv : (nI ((t0 / 10) % 10)) = nI y := by rw [hy]
  refine g_lve (congrArg (fun zz : Int32 => ([(0, .ref mo), (1, .int (nI t0)), (2, .int (nI x)), (3, .int zz)] : List (Nat × Value))) elv) ?_
  refine g_iload_n hC 1 dX6_does_13 rfl rfl ?_
  refine g_bipush (v := nI 10) hC dX6_does_14 (by decide +kernel) ?_
  refine g_irem_n (a := t0) (b := 10) hC (by omega) (by omega) (by omega) dX6_does_16 ?_
  refine g_istore (lv' := [(0, .ref mo), (1, .int (nI t0)), (2, .int (nI x)), (3, .int (nI y)), (4, .int (nI (t0 % 10)))]) hC [1, 2, 3, 4, 0] dX6_does_17 (by decide) rfl ?_
  have elv : (nI (t0 % 10)) = nI z := by rw [hz]
  refine g_lve (congrArg (fun zz : Int32 => ([(0, .ref mo), (1, .int (nI t0)), (2, .int (nI x)), (3, .int (nI y)), (4, .int zz)] : List (Nat × Value))) elv) ?_
  refine g_iload_n hC 1 dX6_does_19 rfl rfl ?_
  refine g_if_ne_n (a := t0) hC (by omega) 34 dX6_does_20 (by decide) (fun h20t => ?_) (fun h20f => ?_)
  · refine g_iload_n hC 2 dX6_does_34 rfl rfl ?_
    refine g_iconst (v := nI 3) hC dX6_does_35 rfl ?_
    refine g_icmp_ne_n (a := x) (b := 3) hC (by omega) (by omega) 80 dX6_does_36 (by decide) (fun h36t => ?_) (fun h36f => ?_)
    · refine g_iload_n hC 2 dX6_does_80 rfl rfl ?_
      refine g_iconst (v := nI 5) hC dX6_does_81 rfl ?_
      refine g_icmp_ne_n (a := x) (b := 5) hC (by omega) (by omega) 112 dX6_does_82 (by decide) (fun h82t => ?_) (fun h82f => ?_)
      · refine g_iload_n hC 3 dX6_does_112 rfl rfl ?_
        refine g_if_ne_n (a := y) hC (by omega) 130 dX6_does_113 (by decide) (fun h113t => ?_) (fun h113f => ?_)
        · refine g_iconst (v := nI 0) hC dX6_does_130 rfl ?_
          have ecell : (mp g) = (mp (doF P np nq nd g (t0 / 100) (t0 / 10 % 10) (t0 % 10))) := by rw [← hx, ← hy, ← hz]; rw [doF_no (doM h36t h82t h113t)]
          refine g_ws (ws2 := [(mo, o6 rm (nI tl) pl (nI np) (nI nq) (nI nd) rt rp rq rd (nI cnt) (nI na) sd rw rx tm tf sm sf), (rm 1, .inl (cI, 5, .inl (fun k_ => nI (P 0 k_)))), (rm 2, .inl (cI, 5, .inl (fun k_ => nI (P 1 k_)))), (rm 3, .inl (cI, 5, .inl (fun k_ => nI (P 2 k_)))), (rm 4, .inl (cI, 5, .inl (fun k_ => nI (P 3 k_)))), (rm 5, .inl (cI, 5, .inl (fun k_ => nI (P 4 k_)))), (rm 6, .inl (cI, 5, .inl (fun k_ => nI (P 5 k_)))), (rm 11, .inl (cI, 20, .inl (mp (doF P np nq nd g (t0 / 100) (t0 / 10 % 10) (t0 % 10)))))]) (congrArg (fun zz : Nat → Int32 => ([(mo, o6 rm (nI tl) pl (nI np) (nI nq) (nI nd) rt rp rq rd (nI cnt) (nI na) sd rw rx tm tf sm sf), (rm 1, .inl (cI, 5, .inl (fun k_ => nI (P 0 k_)))), (rm 2, .inl (cI, 5, .inl (fun k_ => nI (P 1 k_)))), (rm 3, .inl (cI, 5, .inl (fun k_ => nI (P 2 k_)))), (rm 4, .inl (cI, 5, .inl (fun k_ => nI (P 3 k_)))), (rm 5, .inl (cI, 5, .inl (fun k_ => nI (P 4 k_)))), (rm 6, .inl (cI, 5, .inl (fun k_ => nI (P 5 k_)))), (rm 11, .inl (cI, 20, .inl zz))] : va_W)) ecell) ?_
          subst hQ
          refine g_zret (v := nI 0) hC () hr (by decide +kernel) ?_ rfl dX6_does_131
          rw [← hx, ← hy, ← hz]; exact (bI_f (doM h36t h82t h113t)).symm
        refine g_aload_n hC 0 dX6_does_116 rfl rfl ?_
        refine g_iload_n hC 2 dX6_does_117 rfl rfl ?_
        refine g_iload hC 4 dX6_does_118 rfl ?_
        refine g_callVi (As := [.int (nI x), .int (nI z)]) (rest := []) hC (c_X6_doesTo l D cI cZ mo rm tl pl np nq nd rt rp rq rd cnt na sd rw rx tm tf sm sf P g x z (by first | assumption | omega) (by first | assumption | omega) (by first | assumption | omega) h36t h82t (by omega)) (cwV 2 hC.1.2.2.2.2 gX6_does_X6_doesTo rfl rfl rfl dV_X6_doesTo ⟨Nat.le_of_ble_eq_true rfl, Nat.le_of_ble_eq_true rfl⟩) rfl rfl rfl rfl (Nat.le_of_ble_eq_true rfl) dX6_does_120 ⟨Nat.le_of_ble_eq_true rfl, Nat.le_of_ble_eq_true rfl⟩ [0, 1, 2, 3, 7] [4, 5, 6] [3, 4, 5, 6, 0, 1, 2, 7] (fun (_ : Unit) => [(mo, o6 rm (nI tl) pl (nI np) (nI nq) (nI nd) rt rp rq rd (nI cnt) (nI na) sd rw rx tm tf sm sf), (rm 1, .inl (cI, 5, .inl (fun k_ => nI (P 0 k_)))), (rm 2, .inl (cI, 5, .inl (fun k_ => nI (P 1 k_)))), (rm 3, .inl (cI, 5, .inl (fun k_ => nI (P 2 k_)))), (rm 4, .inl (cI, 5, .inl (fun k_ => nI (P 3 k_)))), (rm 5, .inl (cI, 5, .inl (fun k_ => nI (P 4 k_)))), (rm 6, .inl (cI, 5, .inl (fun k_ => nI (P 5 k_)))), (rm 11, .inl (cI, 20, .inl (mp (doF P np nq nd g x 0 z))))]) rfl rfl rfl (fun _ => rfl) (fun r120 z120 hp120 => ?_)
        try dsimp only at hp120
        subst hp120
        refine g_is (ws2 := [(mo, o6 rm (nI tl) pl (nI np) (nI nq) (nI nd) rt rp rq rd (nI cnt) (nI na) sd rw rx tm tf sm sf), (rm 1, .inl (cI, 5, .inl (fun k_ => nI (P 0 k_)))), (rm 2, .inl (cI, 5, .inl (fun k_ => nI (P 1 k_)))), (rm 3, .inl (cI, 5, .inl (fun k_ => nI (P 2 k_)))), (rm 4, .inl (cI, 5, .inl (fun k_ => nI (P 3 k_)))), (rm 5, .inl (cI, 5, .inl (fun k_ => nI (P 4 k_)))), (rm 6, .inl (cI, 5, .inl (fun k_ => nI (P 5 k_)))), (rm 11, .inl (cI, 20, .inl (mp (doF P np nq nd g x 0 z))))]) (lv2 := [(0, .ref mo), (1, .int (nI t0)), (2, .int (nI x)), (3, .int (nI y)), (4, .int (nI z))]) (st2 := [.int (bI (doOK P np nq nd g x 0 z))]) rfl rfl rfl ?_
        refine g_if_eq_b hC 130 dX6_does_123 (by decide) (fun h123t => ?_) (fun h123f => ?_)
        · refine g_iconst (v := nI 0) hC dX6_does_130 rfl ?_
          have ecell : (mp (doF P np nq nd g x 0 z)) = (mp (doF P np nq nd g (t0 / 100) (t0 / 10 % 10) (t0 % 10))) := by rw [← hx, ← hy, ← hz]; rw [h113f]
          refine g_ws (ws2 := [(mo, o6 rm (nI tl) pl (nI np) (nI nq) (nI nd) rt rp rq rd (nI cnt) (nI na) sd rw rx tm tf sm sf), (rm 1, .inl (cI, 5, .inl (fun k_ => nI (P 0 k_)))), (rm 2, .inl (cI, 5, .inl (fun k_ => nI (P 1 k_)))), (rm 3, .inl (cI, 5, .inl (fun k_ => nI (P 2 k_)))), (rm 4, .inl (cI, 5, .inl (fun k_ => nI (P 3 k_)))), (rm 5, .inl (cI, 5, .inl (fun k_ => nI (P 4 k_)))), (rm 6, .inl (cI, 5, .inl (fun k_ => nI (P 5 k_)))), (rm 11, .inl (cI, 20, .inl (mp (doF P np nq nd g (t0 / 100) (t0 / 10 % 10) (t0 % 10)))))]) (congrArg (fun zz : Nat → Int32 => ([(mo, o6 rm (nI tl) pl (nI np) (nI nq) (nI nd) rt rp rq rd (nI cnt) (nI na) sd rw rx tm tf sm sf), (rm 1, .inl (cI, 5, .inl (fun k_ => nI (P 0 k_)))), (rm 2, .inl (cI, 5, .inl (fun k_ => nI (P 1 k_)))), (rm 3, .inl (cI, 5, .inl (fun k_ => nI (P 2 k_)))), (rm 4, .inl (cI, 5, .inl (fun k_ => nI (P 3 k_)))), (rm 5, .inl (cI, 5, .inl (fun k_ => nI (P 4 k_)))), (rm 6, .inl (cI, 5, .inl (fun k_ => nI (P 5 k_)))), (rm 11, .inl (cI, 20, .inl zz))] : va_W)) ecell) ?_
          subst hQ
          refine g_zret (v := nI 0) hC () hr (by decide +kernel) ?_ rfl dX6_does_131
          rw [← hx, ← hy, ← hz]; rw [h113f]; exact (bI_f h123t).symm
        refine g_iconst (v := nI 1) hC dX6_does_126 rfl ?_
        refine g_goto hC 131 dX6_does_127 (by decide) ?_
        have ecell : (mp (doF P np nq nd g x 0 z)) = (mp (doF P np nq nd g (t0 / 100) (t0 / 10 % 10) (t0 % 10))) := by rw [← hx, ← hy, ← hz]; rw [h113f]
        refine g_ws (ws2 := [(mo, o6 rm (nI tl) pl (nI np) (nI nq) (nI nd) rt rp rq rd (nI cnt) (nI na) sd rw rx tm tf sm sf), (rm 1, .inl (cI, 5, .inl (fun k_ => nI (P 0 k_)))), (rm 2, .inl (cI, 5, .inl (fun k_ => nI (P 1 k_)))), (rm 3, .inl (cI, 5, .inl (fun k_ => nI (P 2 k_)))), (rm 4, .inl (cI, 5, .inl (fun k_ => nI (P 3 k_)))), (rm 5, .inl (cI, 5, .inl (fun k_ => nI (P 4 k_)))), (rm 6, .inl (cI, 5, .inl (fun k_ => nI (P 5 k_)))), (rm 11, .inl (cI, 20, .inl (mp (doF P np nq nd g (t0 / 100) (t0 / 10 % 10) (t0 % 10)))))]) (congrArg (fun zz : Nat → Int32 => ([(mo, o6 rm (nI tl) pl (nI np) (nI nq) (nI nd) rt rp rq rd (nI cnt) (nI na) sd rw rx tm tf sm sf), (rm 1, .inl (cI, 5, .inl (fun k_ => nI (P 0 k_)))), (rm 2, .inl (cI, 5, .inl (fun k_ => nI (P 1 k_)))), (rm 3, .inl (cI, 5, .inl (fun k_ => nI (P 2 k_)))), (rm 4, .inl (cI, 5, .inl (fun k_ => nI (P 3 k_)))), (rm 5, .inl (cI, 5, .inl (fun k_ => nI (P 4 k_)))), (rm 6, .inl (cI, 5, .inl (fun k_ => nI (P 5 k_)))), (rm 11, .inl (cI, 20, .inl zz))] : va_W)) ecell) ?_
        subst hQ
        refine g_zret (v := nI 1) hC () hr (by decide +kernel) ?_ rfl dX6_does_131
        rw [← hx, ← hy, ← hz]; rw [h113f]; exact (bI_t h123f).symm
      refine g_aload_n hC 0 dX6_does_85 rfl rfl ?_
      refine g_iload_n hC 3 dX6_does_86 rfl rfl ?_
      refine g_callVip (As := [.int (nI y)]) (rest := []) hC (bI (¬ inR (nI y) np)) (c_X6_noPerson l D cI cZ mo rm tl pl np nq nd rt rp rq rd cnt na sd rw rx tm tf sm sf (nI y) (by omega)) (cwV 1 hC.1.2.2.2.2 gX6_does_X6_noPerson rfl rfl rfl dV_X6_noPerson ⟨Nat.le_of_ble_eq_true rfl, Nat.le_of_ble_eq_true rfl⟩) rfl rfl rfl rfl (Nat.le_of_ble_eq_true rfl) dX6_does_87 ⟨Nat.le_of_ble_eq_true rfl, Nat.le_of_ble_eq_true rfl⟩ [0] rfl rfl ?_
      refine g_if_ne_b hC 110 dX6_does_90 (by decide) (fun h90t => ?_) (fun h90f => ?_)
      · refine g_iconst (v := nI 0) hC dX6_does_110 rfl ?_
        have hk : doOK P np nq nd g x y z ↔ (y < np ∧ nI z ≤ g (2 + y)) := by rw [h82f]; exact do5
        have ecell : (mp g) = (mp (doF P np nq nd g (t0 / 100) (t0 / 10 % 10) (t0 % 10))) := by rw [← hx, ← hy, ← hz]; rw [h82f]; exact congrArg mp do5f.symm
        refine g_ws (ws2 := [(mo, o6 rm (nI tl) pl (nI np) (nI nq) (nI nd) rt rp rq rd (nI cnt) (nI na) sd rw rx tm tf sm sf), (rm 1, .inl (cI, 5, .inl (fun k_ => nI (P 0 k_)))), (rm 2, .inl (cI, 5, .inl (fun k_ => nI (P 1 k_)))), (rm 3, .inl (cI, 5, .inl (fun k_ => nI (P 2 k_)))), (rm 4, .inl (cI, 5, .inl (fun k_ => nI (P 3 k_)))), (rm 5, .inl (cI, 5, .inl (fun k_ => nI (P 4 k_)))), (rm 6, .inl (cI, 5, .inl (fun k_ => nI (P 5 k_)))), (rm 11, .inl (cI, 20, .inl (mp (doF P np nq nd g (t0 / 100) (t0 / 10 % 10) (t0 % 10)))))]) (congrArg (fun zz : Nat → Int32 => ([(mo, o6 rm (nI tl) pl (nI np) (nI nq) (nI nd) rt rp rq rd (nI cnt) (nI na) sd rw rx tm tf sm sf), (rm 1, .inl (cI, 5, .inl (fun k_ => nI (P 0 k_)))), (rm 2, .inl (cI, 5, .inl (fun k_ => nI (P 1 k_)))), (rm 3, .inl (cI, 5, .inl (fun k_ => nI (P 2 k_)))), (rm 4, .inl (cI, 5, .inl (fun k_ => nI (P 3 k_)))), (rm 5, .inl (cI, 5, .inl (fun k_ => nI (P 4 k_)))), (rm 6, .inl (cI, 5, .inl (fun k_ => nI (P 5 k_)))), (rm 11, .inl (cI, 20, .inl zz))] : va_W)) ecell) ?_
        subst hQ
        refine g_zret (v := nI 0) hC () hr (by decide +kernel) ?_ rfl dX6_does_111
        rw [← hx, ← hy, ← hz]; exact (bI_f (fun w => h90t (inR_k (by omega) (hk.mp w).1))).symm
      have hv := (inR_kn (by omega) (by omega)).mp (Decidable.not_not.mp h90f)
      refine g_aload_n hC 0 dX6_does_93 rfl rfl ?_
      refine g_get (C := RX6) (T := TX6) (N := 38) (ci := 6) (v := .ref (rm 11)) hC hcw6 0 rfl rfl 21 (by decide) w1 (fun _ h => h) rfl dX6_does_94 ?_
      refine g_iconst (v := nI 1) hC dX6_does_97 rfl ?_
      refine g_iload_n hC 3 dX6_does_98 rfl rfl ?_
      refine g_iadd_n (a := 1) (b := y) hC dX6_does_99 ?_
      refine g_iald hC 7 rfl (1 + y) rfl (by omega) (by decide) dX6_does_100 ?_
      refine g_top (y := g (2 + y)) (mp_1 _ (by omega)) ?_
      refine g_iload hC 4 dX6_does_101 rfl ?_
      refine g_icmp_lt hC 110 dX6_does_103 (by decide) (fun h103t => ?_) (fun h103f => ?_)
      · refine g_iconst (v := nI 0) hC dX6_does_110 rfl ?_
        have hk : doOK P np nq nd g x y z ↔ (y < np ∧ nI z ≤ g (2 + y)) := by rw [h82f]; exact do5
        have ecell : (mp g) = (mp (doF P np nq nd g (t0 / 100) (t0 / 10 % 10) (t0 % 10))) := by rw [← hx, ← hy, ← hz]; rw [h82f]; exact congrArg mp do5f.symm
        refine g_ws (ws2 := [(mo, o6 rm (nI tl) pl (nI np) (nI nq) (nI nd) rt rp rq rd (nI cnt) (nI na) sd rw rx tm tf sm sf), (rm 1, .inl (cI, 5, .inl (fun k_ => nI (P 0 k_)))), (rm 2, .inl (cI, 5, .inl (fun k_ => nI (P 1 k_)))), (rm 3, .inl (cI, 5, .inl (fun k_ => nI (P 2 k_)))), (rm 4, .inl (cI, 5, .inl (fun k_ => nI (P 3 k_)))), (rm 5, .inl (cI, 5, .inl (fun k_ => nI (P 4 k_)))), (rm 6, .inl (cI, 5, .inl (fun k_ => nI (P 5 k_)))), (rm 11, .inl (cI, 20, .inl (mp (doF P np nq nd g (t0 / 100) (t0 / 10 % 10) (t0 % 10)))))]) (congrArg (fun zz : Nat → Int32 => ([(mo, o6 rm (nI tl) pl (nI np) (nI nq) (nI nd) rt rp rq rd (nI cnt) (nI na) sd rw rx tm tf sm sf), (rm 1, .inl (cI, 5, .inl (fun k_ => nI (P 0 k_)))), (rm 2, .inl (cI, 5, .inl (fun k_ => nI (P 1 k_)))), (rm 3, .inl (cI, 5, .inl (fun k_ => nI (P 2 k_)))), (rm 4, .inl (cI, 5, .inl (fun k_ => nI (P 3 k_)))), (rm 5, .inl (cI, 5, .inl (fun k_ => nI (P 4 k_)))), (rm 6, .inl (cI, 5, .inl (fun k_ => nI (P 5 k_)))), (rm 11, .inl (cI, 20, .inl zz))] : va_W)) ecell) ?_
        subst hQ
        refine g_zret (v := nI 0) hC () hr (by decide +kernel) ?_ rfl dX6_does_111
        rw [← hx, ← hy, ← hz]; exact (bI_f (fun w => absurd (hk.mp w).2 (Int32.not_le.mpr h103t))).symm
      refine g_iconst (v := nI 1) hC dX6_does_106 rfl ?_
      refine g_goto hC 111 dX6_does_107 (by decide) ?_
      have hk : doOK P np nq nd g x y z ↔ (y < np ∧ nI z ≤ g (2 + y)) := by rw [h82f]; exact do5
      have ecell : (mp g) = (mp (doF P np nq nd g (t0 / 100) (t0 / 10 % 10) (t0 % 10))) := by rw [← hx, ← hy, ← hz]; rw [h82f]; exact congrArg mp do5f.symm
      refine g_ws (ws2 := [(mo, o6 rm (nI tl) pl (nI np) (nI nq) (nI nd) rt rp rq rd (nI cnt) (nI na) sd rw rx tm tf sm sf), (rm 1, .inl (cI, 5, .inl (fun k_ => nI (P 0 k_)))), (rm 2, .inl (cI, 5, .inl (fun k_ => nI (P 1 k_)))), (rm 3, .inl (cI, 5, .inl (fun k_ => nI (P 2 k_)))), (rm 4, .inl (cI, 5, .inl (fun k_ => nI (P 3 k_)))), (rm 5, .inl (cI, 5, .inl (fun k_ => nI (P 4 k_)))), (rm 6, .inl (cI, 5, .inl (fun k_ => nI (P 5 k_)))), (rm 11, .inl (cI, 20, .inl (mp (doF P np nq nd g (t0 / 100) (t0 / 10 % 10) (t0 % 10)))))]) (congrArg (fun zz : Nat → Int32 => ([(mo, o6 rm (nI tl) pl (nI np) (nI nq) (nI nd) rt rp rq rd (nI cnt) (nI na) sd rw rx tm tf sm sf), (rm 1, .inl (cI, 5, .inl (fun k_ => nI (P 0 k_)))), (rm 2, .inl (cI, 5, .inl (fun k_ => nI (P 1 k_)))), (rm 3, .inl (cI, 5, .inl (fun k_ => nI (P 2 k_)))), (rm 4, .inl (cI, 5, .inl (fun k_ => nI (P 3 k_)))), (rm 5, .inl (cI, 5, .inl (fun k_ => nI (P 4 k_)))), (rm 6, .inl (cI, 5, .inl (fun k_ => nI (P 5 k_)))), (rm 11, .inl (cI, 20, .inl zz))] : va_W)) ecell) ?_
      subst hQ
      refine g_zret (v := nI 1) hC () hr (by decide +kernel) ?_ rfl dX6_does_111
      rw [← hx, ← hy, ← hz]; exact (bI_t (hk.mpr ⟨hv, Int32.not_lt.mp h103f⟩)).symm
    refine g_aload_n hC 0 dX6_does_39 rfl rfl ?_
    refine g_iload_n hC 3 dX6_does_40 rfl rfl ?_
    refine g_callVip (As := [.int (nI y)]) (rest := []) hC (bI (¬ inR (nI y) np)) (c_X6_noPerson l D cI cZ mo rm tl pl np nq nd rt rp rq rd cnt na sd rw rx tm tf sm sf (nI y) (by omega)) (cwV 1 hC.1.2.2.2.2 gX6_does_X6_noPerson rfl rfl rfl dV_X6_noPerson ⟨Nat.le_of_ble_eq_true rfl, Nat.le_of_ble_eq_true rfl⟩) rfl rfl rfl rfl (Nat.le_of_ble_eq_true rfl) dX6_does_41 ⟨Nat.le_of_ble_eq_true rfl, Nat.le_of_ble_eq_true rfl⟩ [0] rfl rfl ?_
    refine g_if_ne_b hC 56 dX6_does_44 (by decide) (fun h44t => ?_) (fun h44f => ?_)
    · refine g_iconst (v := nI 0) hC dX6_does_56 rfl ?_
      refine g_istore (lv' := [(0, .ref mo), (1, .int (nI t0)), (2, .int (nI x)), (3, .int (nI y)), (4, .int (nI z)), (5, .int (nI 0))]) hC [1, 2, 3, 4, 5, 0] dX6_does_57 (by decide) rfl ?_
      refine g_iload hC 5 dX6_does_59 rfl ?_
      refine g_if_eq_n (a := 0) hC (by omega) 77 dX6_does_61 (by decide) (fun _ => ?_) (fun q => absurd q (by decide))
      have hk : doOK P np nq nd g x y z ↔ (y < np ∧ 1 ≤ z) := by rw [h36f]; exact do3i
      have ok : ¬ doOK P np nq nd g x y z := fun w => h44t (inR_k (by omega) (hk.mp w).1)
      have ecell : (mp g) = (mp (doF P np nq nd g (t0 / 100) (t0 / 10 % 10) (t0 % 10))) := by rw [← hx, ← hy, ← hz]; rw [doF_no ok]
      refine g_ws (ws2 := [(mo, o6 rm (nI tl) pl (nI np) (nI nq) (nI nd) rt rp rq rd (nI cnt) (nI na) sd rw rx tm tf sm sf), (rm 1, .inl (cI, 5, .inl (fun k_ => nI (P 0 k_)))), (rm 2, .inl (cI, 5, .inl (fun k_ => nI (P 1 k_)))), (rm 3, .inl (cI, 5, .inl (fun k_ => nI (P 2 k_)))), (rm 4, .inl (cI, 5, .inl (fun k_ => nI (P 3 k_)))), (rm 5, .inl (cI, 5, .inl (fun k_ => nI (P 4 k_)))), (rm 6, .inl (cI, 5, .inl (fun k_ => nI (P 5 k_)))), (rm 11, .inl (cI, 20, .inl (mp (doF P np nq nd g (t0 / 100) (t0 / 10 % 10) (t0 % 10)))))]) (congrArg (fun zz : Nat → Int32 => ([(mo, o6 rm (nI tl) pl (nI np) (nI nq) (nI nd) rt rp rq rd (nI cnt) (nI na) sd rw rx tm tf sm sf), (rm 1, .inl (cI, 5, .inl (fun k_ => nI (P 0 k_)))), (rm 2, .inl (cI, 5, .inl (fun k_ => nI (P 1 k_)))), (rm 3, .inl (cI, 5, .inl (fun k_ => nI (P 2 k_)))), (rm 4, .inl (cI, 5, .inl (fun k_ => nI (P 3 k_)))), (rm 5, .inl (cI, 5, .inl (fun k_ => nI (P 4 k_)))), (rm 6, .inl (cI, 5, .inl (fun k_ => nI (P 5 k_)))), (rm 11, .inl (cI, 20, .inl zz))] : va_W)) ecell) ?_
      refine g_iload hC 5 dX6_does_77 rfl ?_
      subst hQ
      refine g_zret (v := nI 0) hC () hr (by decide +kernel) ?_ rfl dX6_does_79
      rw [← hx, ← hy, ← hz]; exact (bI_f ok).symm
    have hv := (inR_kn (by omega) (by omega)).mp (Decidable.not_not.mp h44f)
    refine g_iload hC 4 dX6_does_47 rfl ?_
    refine g_if_le_n (a := z) hC (by omega) 56 dX6_does_49 (by decide) (fun h49t => ?_) (fun h49f => ?_)
    · refine g_iconst (v := nI 0) hC dX6_does_56 rfl ?_
      refine g_istore (lv' := [(0, .ref mo), (1, .int (nI t0)), (2, .int (nI x)), (3, .int (nI y)), (4, .int (nI z)), (5, .int (nI 0))]) hC [1, 2, 3, 4, 5, 0] dX6_does_57 (by decide) rfl ?_
      refine g_iload hC 5 dX6_does_59 rfl ?_
      refine g_if_eq_n (a := 0) hC (by omega) 77 dX6_does_61 (by decide) (fun _ => ?_) (fun q => absurd q (by decide))
      have hk : doOK P np nq nd g x y z ↔ (y < np ∧ 1 ≤ z) := by rw [h36f]; exact do3i
      have ok : ¬ doOK P np nq nd g x y z := fun w => absurd (hk.mp w).2 (by omega)
      have ecell : (mp g) = (mp (doF P np nq nd g (t0 / 100) (t0 / 10 % 10) (t0 % 10))) := by rw [← hx, ← hy, ← hz]; rw [doF_no ok]
      refine g_ws (ws2 := [(mo, o6 rm (nI tl) pl (nI np) (nI nq) (nI nd) rt rp rq rd (nI cnt) (nI na) sd rw rx tm tf sm sf), (rm 1, .inl (cI, 5, .inl (fun k_ => nI (P 0 k_)))), (rm 2, .inl (cI, 5, .inl (fun k_ => nI (P 1 k_)))), (rm 3, .inl (cI, 5, .inl (fun k_ => nI (P 2 k_)))), (rm 4, .inl (cI, 5, .inl (fun k_ => nI (P 3 k_)))), (rm 5, .inl (cI, 5, .inl (fun k_ => nI (P 4 k_)))), (rm 6, .inl (cI, 5, .inl (fun k_ => nI (P 5 k_)))), (rm 11, .inl (cI, 20, .inl (mp (doF P np nq nd g (t0 / 100) (t0 / 10 % 10) (t0 % 10)))))]) (congrArg (fun zz : Nat → Int32 => ([(mo, o6 rm (nI tl) pl (nI np) (nI nq) (nI nd) rt rp rq rd (nI cnt) (nI na) sd rw rx tm tf sm sf), (rm 1, .inl (cI, 5, .inl (fun k_ => nI (P 0 k_)))), (rm 2, .inl (cI, 5, .inl (fun k_ => nI (P 1 k_)))), (rm 3, .inl (cI, 5, .inl (fun k_ => nI (P 2 k_)))), (rm 4, .inl (cI, 5, .inl (fun k_ => nI (P 3 k_)))), (rm 5, .inl (cI, 5, .inl (fun k_ => nI (P 4 k_)))), (rm 6, .inl (cI, 5, .inl (fun k_ => nI (P 5 k_)))), (rm 11, .inl (cI, 20, .inl zz))] : va_W)) ecell) ?_
      refine g_iload hC 5 dX6_does_77 rfl ?_
      subst hQ
      refine g_zret (v := nI 0) hC () hr (by decide +kernel) ?_ rfl dX6_does_79
      rw [← hx, ← hy, ← hz]; exact (bI_f ok).symm
    refine g_iconst (v := nI 1) hC dX6_does_52 rfl ?_
    refine g_goto hC 57 dX6_does_53 (by decide) ?_
    refine g_istore (lv' := [(0, .ref mo), (1, .int (nI t0)), (2, .int (nI x)), (3, .int (nI y)), (4, .int (nI z)), (5, .int (nI 1))]) hC [1, 2, 3, 4, 5, 0] dX6_does_57 (by decide) rfl ?_
    refine g_iload hC 5 dX6_does_59 rfl ?_
    refine g_if_eq_n (a := 1) hC (by omega) 77 dX6_does_61 (by decide) (fun q => absurd q (by decide)) (fun _ => ?_)
    refine g_aload_n hC 0 dX6_does_64 rfl rfl ?_
    refine g_get (C := RX6) (T := TX6) (N := 38) (ci := 6) (v := .ref (rm 11)) hC hcw6 0 rfl rfl 21 (by decide) w1 (fun _ h => h) rfl dX6_does_65 ?_
    refine g_iconst (v := nI 1) hC dX6_does_68 rfl ?_
    refine g_iload_n hC 3 dX6_does_69 rfl rfl ?_
    refine g_iadd_n (a := 1) (b := y) hC dX6_does_70 ?_
    refine g_dup2 hC dX6_does_71 rfl rfl ?_
    refine g_iald hC 7 rfl (1 + y) rfl (by omega) (by decide) dX6_does_72 ?_
    refine g_top (y := g (2 + y)) (mp_1 _ (by omega)) ?_
    refine g_iload hC 4 dX6_does_73 rfl ?_
    refine g_iadd hC dX6_does_75 ?_
    refine g_iast hC 7 rfl (1 + y) rfl (by omega) (by decide) [(mo, o6 rm (nI tl) pl (nI np) (nI nq) (nI nd) rt rp rq rd (nI cnt) (nI na) sd rw rx tm tf sm sf), (rm 1, .inl (cI, 5, .inl (fun k_ => nI (P 0 k_)))), (rm 2, .inl (cI, 5, .inl (fun k_ => nI (P 1 k_)))), (rm 3, .inl (cI, 5, .inl (fun k_ => nI (P 2 k_)))), (rm 4, .inl (cI, 5, .inl (fun k_ => nI (P 3 k_)))), (rm 5, .inl (cI, 5, .inl (fun k_ => nI (P 4 k_)))), (rm 6, .inl (cI, 5, .inl (fun k_ => nI (P 5 k_)))), (rm 11, .inl (cI, 20, .inl (upd (mp g) (1 + y) ((g (2 + y)) + (nI z)))))] rfl dX6_does_76 ?_
    refine g_ws (ws2 := [(mo, o6 rm (nI tl) pl (nI np) (nI nq) (nI nd) rt rp rq rd (nI cnt) (nI na) sd rw rx tm tf sm sf), (rm 1, .inl (cI, 5, .inl (fun k_ => nI (P 0 k_)))), (rm 2, .inl (cI, 5, .inl (fun k_ => nI (P 1 k_)))), (rm 3, .inl (cI, 5, .inl (fun k_ => nI (P 2 k_)))), (rm 4, .inl (cI, 5, .inl (fun k_ => nI (P 3 k_)))), (rm 5, .inl (cI, 5, .inl (fun k_ => nI (P 4 k_)))), (rm 6, .inl (cI, 5, .inl (fun k_ => nI (P 5 k_)))), (rm 11, .inl (cI, 20, .inl (mp (upd g (2 + y) ((g (2 + y)) + (nI z))))))]) (congrArg (fun zz : Nat → Int32 => ([(mo, o6 rm (nI tl) pl (nI np) (nI nq) (nI nd) rt rp rq rd (nI cnt) (nI na) sd rw rx tm tf sm sf), (rm 1, .inl (cI, 5, .inl (fun k_ => nI (P 0 k_)))), (rm 2, .inl (cI, 5, .inl (fun k_ => nI (P 1 k_)))), (rm 3, .inl (cI, 5, .inl (fun k_ => nI (P 2 k_)))), (rm 4, .inl (cI, 5, .inl (fun k_ => nI (P 3 k_)))), (rm 5, .inl (cI, 5, .inl (fun k_ => nI (P 4 k_)))), (rm 6, .inl (cI, 5, .inl (fun k_ => nI (P 5 k_)))), (rm 11, .inl (cI, 20, .inl zz))] : va_W)) (mpu_1 _ _ (by omega))) ?_
    have hk : doOK P np nq nd g x y z ↔ (y < np ∧ 1 ≤ z) := by rw [h36f]; exact do3i
    have ok : doOK P np nq nd g x y z := hk.mpr ⟨hv, by omega⟩
    have ecell : (mp (upd g (2 + y) ((g (2 + y)) + (nI z)))) = (mp (doF P np nq nd g (t0 / 100) (t0 / 10 % 10) (t0 % 10))) := by rw [← hx, ← hy, ← hz]; rw [h36f]; rw [h36f] at ok; rw [do3f ok]; rfl
    refine g_ws (ws2 := [(mo, o6 rm (nI tl) pl (nI np) (nI nq) (nI nd) rt rp rq rd (nI cnt) (nI na) sd rw rx tm tf sm sf), (rm 1, .inl (cI, 5, .inl (fun k_ => nI (P 0 k_)))), (rm 2, .inl (cI, 5, .inl (fun k_ => nI (P 1 k_)))), (rm 3, .inl (cI, 5, .inl (fun k_ => nI (P 2 k_)))), (rm 4, .inl (cI, 5, .inl (fun k_ => nI (P 3 k_)))), (rm 5, .inl (cI, 5, .inl (fun k_ => nI (P 4 k_)))), (rm 6, .inl (cI, 5, .inl (fun k_ => nI (P 5 k_)))), (rm 11, .inl (cI, 20, .inl (mp (doF P np nq nd g (t0 / 100) (t0 / 10 % 10) (t0 % 10)))))]) (congrArg (fun zz : Nat → Int32 => ([(mo, o6 rm (nI tl) pl (nI np) (nI nq) (nI nd) rt rp rq rd (nI cnt) (nI na) sd rw rx tm tf sm sf), (rm 1, .inl (cI, 5, .inl (fun k_ => nI (P 0 k_)))), (rm 2, .inl (cI, 5, .inl (fun k_ => nI (P 1 k_)))), (rm 3, .inl (cI, 5, .inl (fun k_ => nI (P 2 k_)))), (rm 4, .inl (cI, 5, .inl (fun k_ => nI (P 3 k_)))), (rm 5, .inl (cI, 5, .inl (fun k_ => nI (P 4 k_)))), (rm 6, .inl (cI, 5, .inl (fun k_ => nI (P 5 k_)))), (rm 11, .inl (cI, 20, .inl zz))] : va_W)) ecell) ?_
    refine g_iload hC 5 dX6_does_77 rfl ?_
    subst hQ
    refine g_zret (v := nI 1) hC () hr (by decide +kernel) ?_ rfl dX6_does_79
    rw [← hx, ← hy, ← hz]; exact (bI_t ok).symm
  refine g_aload_n hC 0 dX6_does_23 rfl rfl ?_
  refine g_aload_n hC 0 dX6_does_24 rfl rfl ?_
  refine g_get (C := RX6) (T := TX6) (N := 38) (ci := 6) (v := .ref (rm 11)) hC hcw6 0 rfl rfl 21 (by decide) w1 (fun _ h => h) rfl dX6_does_25 ?_
  refine g_callVi (As := [.ref (rm 11)]) (rest := []) hC (c_X6_goDay l D cI cZ mo rm tl pl np nq nd rt rp rq rd cnt na sd rw rx tm tf sm sf P (rm 11) g (by first | assumption | omega) (Fr_fresh hW hFr (by omega))) (cwV 1 hC.1.2.2.2.2 gX6_does_X6_goDay rfl rfl rfl dV_X6_goDay ⟨Nat.le_of_ble_eq_true rfl, Nat.le_of_ble_eq_true rfl⟩) rfl rfl rfl rfl (Nat.le_of_ble_eq_true rfl) dX6_does_28 ⟨Nat.le_of_ble_eq_true rfl, Nat.le_of_ble_eq_true rfl⟩ [0, 1, 3, 4, 5, 6, 7] [2] [1, 2, 0, 3, 4, 5, 6, 7] (fun (_ : Unit) => [(mo, o6 rm (nI tl) pl (nI np) (nI nq) (nI nd) rt rp rq rd (nI cnt) (nI na) sd rw rx tm tf sm sf), (rm 1, .inl (cI, 5, .inl (fun k_ => nI (P 0 k_)))), (rm 2, .inl (cI, 5, .inl (fun k_ => nI (P 1 k_)))), (rm 3, .inl (cI, 5, .inl (fun k_ => nI (P 2 k_)))), (rm 4, .inl (cI, 5, .inl (fun k_ => nI (P 3 k_)))), (rm 5, .inl (cI, 5, .inl (fun k_ => nI (P 4 k_)))), (rm 6, .inl (cI, 5, .inl (fun k_ => nI (P 5 k_)))), ((rm 11), .inl (cI, 20, .inl (mp (passF P nq nd g))))]) rfl rfl rfl (fun _ => rfl) (fun r28 z28 hp28 => ?_)
  try dsimp only at hp28
  subst hp28
  refine g_is (ws2 := [(mo, o6 rm (nI tl) pl (nI np) (nI nq) (nI nd) rt rp rq rd (nI cnt) (nI na) sd rw rx tm tf sm sf), (rm 1, .inl (cI, 5, .inl (fun k_ => nI (P 0 k_)))), (rm 2, .inl (cI, 5, .inl (fun k_ => nI (P 1 k_)))), (rm 3, .inl (cI, 5, .inl (fun k_ => nI (P 2 k_)))), (rm 4, .inl (cI, 5, .inl (fun k_ => nI (P 3 k_)))), (rm 5, .inl (cI, 5, .inl (fun k_ => nI (P 4 k_)))), (rm 6, .inl (cI, 5, .inl (fun k_ => nI (P 5 k_)))), ((rm 11), .inl (cI, 20, .inl (mp (passF P nq nd g))))]) (lv2 := [(0, .ref mo), (1, .int (nI t0)), (2, .int (nI x)), (3, .int (nI y)), (4, .int (nI z))]) (st2 := [.int (nI (cntD P g nd))]) rfl rfl rfl ?_
  refine g_pop hC dX6_does_31 rfl ?_
  refine g_iconst (v := nI 1) hC dX6_does_32 rfl ?_
  have ecell : (mp (passF P nq nd g)) = (mp (doF P np nq nd g (t0 / 100) (t0 / 10 % 10) (t0 % 10))) := by rw [h20f]; exact congrArg mp do0f.symm
  refine g_ws (ws2 := [(mo, o6 rm (nI tl) pl (nI np) (nI nq) (nI nd) rt rp rq rd (nI cnt) (nI na) sd rw rx tm tf sm sf), (rm 1, .inl (cI, 5, .inl (fun k_ => nI (P 0 k_)))), (rm 2, .inl (cI, 5, .inl (fun k_ => nI (P 1 k_)))), (rm 3, .inl (cI, 5, .inl (fun k_ => nI (P 2 k_)))), (rm 4, .inl (cI, 5, .inl (fun k_ => nI (P 3 k_)))), (rm 5, .inl (cI, 5, .inl (fun k_ => nI (P 4 k_)))), (rm 6, .inl (cI, 5, .inl (fun k_ => nI (P 5 k_)))), ((rm 11), .inl (cI, 20, .inl (mp (doF P np nq nd g (t0 / 100) (t0 / 10 % 10) (t0 % 10)))))]) (congrArg (fun zz : Nat → Int32 => ([(mo, o6 rm (nI tl) pl (nI np) (nI nq) (nI nd) rt rp rq rd (nI cnt) (nI na) sd rw rx tm tf sm sf), (rm 1, .inl (cI, 5, .inl (fun k_ => nI (P 0 k_)))), (rm 2, .inl (cI, 5, .inl (fun k_ => nI (P 1 k_)))), (rm 3, .inl (cI, 5, .inl (fun k_ => nI (P 2 k_)))), (rm 4, .inl (cI, 5, .inl (fun k_ => nI (P 3 k_)))), (rm 5, .inl (cI, 5, .inl (fun k_ => nI (P 4 k_)))), (rm 6, .inl (cI, 5, .inl (fun k_ => nI (P 5 k_)))), ((rm 11), .inl (cI, 20, .inl zz))] : va_W)) ecell) ?_
  subst hQ
  refine g_zret (v := nI 1) hC () hr (by decide +kernel) ?_ rfl dX6_does_33
  rw [h20f]; exact (bI_t (do0.mpr rfl)).symm
