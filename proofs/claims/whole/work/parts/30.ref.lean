abbrev rm_X6_in : Room := { frames := 0, cells := 0, slots := 0, locals := 0 }
set_option maxRecDepth 100000 in
set_option maxHeartbeats 4000000 in
theorem c_X6_in (l : Launch) (D : va_G) (cI cZ : ClassId) (x : Int32) (y : Int32) (z : Int32) : CtI l yX6_in wsX6_in rm_X6_in D cI cZ [.long x.toInt64, .long y.toInt64, .long z.toInt64] [] (fun r (_ : Unit) => r = bI (y ≤ x ∧ x ≤ z)) (fun (_ : Unit) => []) 0 0 := by
  refine g_startI (ret := (some .boolean)) (own := RX6) (lv0 := [(0, .long x.toInt64), (2, .long y.toInt64), (4, .long z.toInt64)]) (by decide) rfl rfl (Nat.le_of_ble_eq_true rfl) rfl ?_
  intro p e s m args below meth cd A Q hin hr hQ hC
  refine g_lload_n hC 0 dX6_in_0 rfl rfl ?_
  refine g_lload_n hC 1 dX6_in_1 rfl rfl ?_
  refine g_lcmp hC dX6_in_2 ?_
  refine g_if_lt hC 17 dX6_in_3 (by decide) (fun h3t => ?_) (fun h3f => ?_)
  · refine g_iconst (v := nI 0) hC dX6_in_17 rfl ?_
    subst hQ
    refine g_zret (v := nI 0) hC () hr (by decide +kernel) ?_ rfl dX6_in_18
    exact (bI_f (fun q => absurd q.1 (fun w => absurd (l_ge.mpr w) (Int32.not_le.mpr h3t)))).symm
  refine g_lload_n hC 0 dX6_in_6 rfl rfl ?_
  refine g_lload hC 2 dX6_in_7 rfl ?_
  refine g_lcmp hC dX6_in_9 ?_
  refine g_if_gt hC 17 dX6_in_10 (by decide) (fun h10t => ?_) (fun h10f => ?_)
  · refine g_iconst (v := nI 0) hC dX6_in_17 rfl ?_
    subst hQ
    refine g_zret (v := nI 0) hC () hr (by decide +kernel) ?_ rfl dX6_in_18
    exact (bI_f (fun q => absurd (l_le.mpr q.2) (Int32.not_le.mpr h10t))).symm
  refine g_iconst (v := nI 1) hC dX6_in_13 rfl ?_
  refine g_goto hC 18 dX6_in_14 (by decide) ?_
  subst hQ
  refine g_zret (v := nI 1) hC () hr (by decide +kernel) ?_ rfl dX6_in_18
  exact (bI_t ⟨l_ge.mp (Int32.not_lt.mp h3f), l_le.mp (Int32.not_lt.mp h10f)⟩).symm

abbrev rm_X6_in_l : Room := { frames := 0, cells := 0, slots := 0, locals := 0 }
set_option maxRecDepth 100000 in
set_option maxHeartbeats 4000000 in
theorem c_X6_in_l (l : Launch) (D : va_G) (cI cZ : ClassId) (x : Int64) (y : Int64) (z : Int64) : CtI l yX6_in wsX6_in rm_X6_in_l D cI cZ [.long x, .long y, .long z] [] (fun r (_ : Unit) => r = bI (y ≤ x ∧ x ≤ z)) (fun (_ : Unit) => []) 0 0 := by
  refine g_startI (ret := (some .boolean)) (own := RX6) (lv0 := [(0, .long x), (2, .long y), (4, .long z)]) (by decide) rfl rfl (Nat.le_of_ble_eq_true rfl) rfl ?_
  intro p e s m args below meth cd A Q hin hr hQ hC
  refine g_lload_n hC 0 dX6_in_0 rfl rfl ?_
  refine g_lload_n hC 1 dX6_in_1 rfl rfl ?_
  refine g_lcmp hC dX6_in_2 ?_
  refine g_if_lt hC 17 dX6_in_3 (by decide) (fun h3t => ?_) (fun h3f => ?_)
  · refine g_iconst (v := nI 0) hC dX6_in_17 rfl ?_
    subst hQ
    refine g_zret (v := nI 0) hC () hr (by decide +kernel) ?_ rfl dX6_in_18
    exact (bI_f (fun q => absurd ((lg_cmp_ge _ _).mpr q.1) (Int32.not_le.mpr h3t))).symm
  refine g_lload_n hC 0 dX6_in_6 rfl rfl ?_
  refine g_lload hC 2 dX6_in_7 rfl ?_
  refine g_lcmp hC dX6_in_9 ?_
  refine g_if_gt hC 17 dX6_in_10 (by decide) (fun h10t => ?_) (fun h10f => ?_)
  · refine g_iconst (v := nI 0) hC dX6_in_17 rfl ?_
    subst hQ
    refine g_zret (v := nI 0) hC () hr (by decide +kernel) ?_ rfl dX6_in_18
    exact (bI_f (fun q => absurd ((lg_cmp_le _ _).mpr q.2) (Int32.not_le.mpr h10t))).symm
  refine g_iconst (v := nI 1) hC dX6_in_13 rfl ?_
  refine g_goto hC 18 dX6_in_14 (by decide) ?_
  subst hQ
  refine g_zret (v := nI 1) hC () hr (by decide +kernel) ?_ rfl dX6_in_18
  exact (bI_t ⟨(lg_cmp_ge _ _).mp (Int32.not_lt.mp h3f), (lg_cmp_le _ _).mp (Int32.not_lt.mp h10f)⟩).symm

abbrev rm_X6_has : Room := { frames := 0, cells := 0, slots := 0, locals := 0 }
set_option maxRecDepth 100000 in
set_option maxHeartbeats 4000000 in
theorem c_X6_has (l : Launch) (D : va_G) (cI cZ : ClassId) (z : Nat) (q : Nat) (hz : z < 32) (hq : q < 5) : CtI l yX6_has wsX6_has rm_X6_has D cI cZ [.int (nI z), .int (nI q)] [] (fun r (_ : Unit) => r = bI (hasB z q)) (fun (_ : Unit) => []) 0 0 := by
  refine g_startI (ret := (some .boolean)) (own := RX6) (lv0 := [(0, .int (nI z)), (1, .int (nI q))]) (by decide) rfl rfl (Nat.le_of_ble_eq_true rfl) rfl ?_
  intro p e s m args below meth cd A Q hin hr hQ hC
  refine g_iload_n hC 0 dX6_has_0 rfl rfl ?_
  refine g_iload_n hC 1 dX6_has_1 rfl rfl ?_
  refine g_ishr_n (a := z) (b := q) hC (by omega) (by omega) dX6_has_2 ?_
  refine g_iconst (v := nI 1) hC dX6_has_3 rfl ?_
  refine g_iand_n (a := (z / 2 ^ q)) (b := 1) hC dX6_has_4 ?_
  refine g_iconst (v := nI 1) hC dX6_has_5 rfl ?_
  refine g_icmp_ne_n (a := ((z / 2 ^ q) &&& 1)) (b := 1) hC (by first | exact and1_lt _ | omega) (by first | exact and1_lt _ | omega) 13 dX6_has_6 (by decide) (fun h6t => ?_) (fun h6f => ?_)
  · refine g_iconst (v := nI 0) hC dX6_has_13 rfl ?_
    subst hQ
    refine g_zret (v := nI 0) hC () hr (by decide +kernel) ?_ rfl dX6_has_14
    exact (bI_f h6t).symm
  refine g_iconst (v := nI 1) hC dX6_has_9 rfl ?_
  refine g_goto hC 14 dX6_has_10 (by decide) ?_
  subst hQ
  refine g_zret (v := nI 1) hC () hr (by decide +kernel) ?_ rfl dX6_has_14
  exact (bI_t h6f).symm

abbrev rm_X6_many : Room := { frames := 0, cells := 0, slots := 0, locals := 0 }
set_option maxRecDepth 100000 in
set_option maxHeartbeats 4000000 in
theorem c_X6_many (l : Launch) (D : va_G) (cI cZ : ClassId) (z : Nat) (hz : z < 32) : CtI l yX6_many wsX6_many rm_X6_many D cI cZ [.int (nI z)] [] (fun r (_ : Unit) => r = nI (pop5 z)) (fun (_ : Unit) => []) 0 0 := by
  refine g_startI (ret := (some .int)) (own := RX6) (lv0 := [(0, .int (nI z))]) (by decide) rfl rfl (Nat.le_of_ble_eq_true rfl) rfl ?_
  intro p e s m args below meth cd A Q hin hr hQ hC
  refine g_iconst (v := nI 0) hC dX6_many_0 rfl ?_
  refine g_istore_n (lv' := [(0, .int (nI z)), (1, .int (nI 0))]) hC [1, 0] dX6_many_1 rfl (by decide) rfl ?_
  refine g_iconst (v := nI 0) hC dX6_many_2 rfl ?_
  refine g_istore_n (lv' := [(0, .int (nI z)), (1, .int (nI 0)), (2, .int (nI 0))]) hC [1, 2, 0] dX6_many_3 rfl (by decide) rfl ?_
  have L4 : ∀ (n : Nat) (i : Nat) (t : Nat), (i ≤ 5) → (t = popN z i) → 5 - i < n → G p l e rm_X6_many s m args below meth cd D A 0 0 Q 3 [] 4 [(0, .int (nI z)), (1, .int (nI t)), (2, .int (nI i))] [] := by
    intro n
    induction n with
    | zero => intro i t hi ht hn; exact absurd hn (Nat.not_lt_zero _)
    | succ n ih4 =>
      intro i t hi ht hn
      refine g_iload_n hC 2 dX6_many_4 rfl rfl ?_
      refine g_iconst (v := nI 5) hC dX6_many_5 rfl ?_
      refine g_icmp_ge_n (a := i) (b := 5) hC (by omega) (by omega) 23 dX6_many_6 (by decide) (fun h6t => ?_) (fun h6f => ?_)
      · refine g_iload_n hC 1 dX6_many_23 rfl rfl ?_
        subst hQ
        refine g_iret (v := nI t) hC () hr ?_ rfl dX6_many_24
        have ei : i = 5 := by omega
        rw [ei] at ht; rw [ht, popN_5]
      refine g_iload_n hC 1 dX6_many_9 rfl rfl ?_
      refine g_iload_n hC 0 dX6_many_10 rfl rfl ?_
      refine g_iload_n hC 2 dX6_many_11 rfl rfl ?_
      refine g_ishr_n (a := z) (b := i) hC (by omega) (by omega) dX6_many_12 ?_
      refine g_iconst (v := nI 1) hC dX6_many_13 rfl ?_
      refine g_iand_n (a := (z / 2 ^ i)) (b := 1) hC dX6_many_14 ?_
      refine g_iadd_n (a := t) (b := ((z / 2 ^ i) &&& 1)) hC dX6_many_15 ?_
      refine g_istore_n (lv' := [(0, .int (nI z)), (1, .int (nI (t + ((z / 2 ^ i) &&& 1)))), (2, .int (nI i))]) hC [1, 0, 2] dX6_many_16 rfl (by decide) rfl ?_
      refine g_iinc (v := nI (i + 1)) (lv' := [(0, .int (nI z)), (1, .int (nI (t + ((z / 2 ^ i) &&& 1)))), (2, .int (nI (i + 1)))]) hC 2 [1, 2, 0] dX6_many_17 rfl (nI_add _ 1) (by decide) rfl ?_
      refine g_goto hC 4 dX6_many_20 (by decide) ?_
      refine ih4 (i + 1) (t + ((z / 2 ^ i) &&& 1)) ?_ ?_ ?_
      · omega
      · rw [ht]; rfl
      · omega
  refine L4 _ 0 0 ?_ ?_ (Nat.lt_succ_self _)
  · omega
  · rfl

abbrev rm_X6_power : Room := { frames := 0, cells := 0, slots := 0, locals := 0 }
set_option maxRecDepth 100000 in
set_option maxHeartbeats 4000000 in
theorem c_X6_power (l : Launch) (D : va_G) (cI cZ : ClassId) (a : Nat) (q : Nat) (hq : q ≤ 5) : CtI l yX6_power wsX6_power rm_X6_power D cI cZ [.int (nI a), .int (nI q)] [] (fun r (_ : Unit) => r = nI (a ^ q)) (fun (_ : Unit) => []) 0 0 := by
  refine g_startI (ret := (some .int)) (own := RX6) (lv0 := [(0, .int (nI a)), (1, .int (nI q))]) (by decide) rfl rfl (Nat.le_of_ble_eq_true rfl) rfl ?_
  intro p e s m args below meth cd A Q hin hr hQ hC
  refine g_iconst (v := nI 1) hC dX6_power_0 rfl ?_
  refine g_istore_n (lv' := [(0, .int (nI a)), (1, .int (nI q)), (2, .int (nI 1))]) hC [1, 2, 0] dX6_power_1 rfl (by decide) rfl ?_
  refine g_iconst (v := nI 0) hC dX6_power_2 rfl ?_
  refine g_istore_n (lv' := [(0, .int (nI a)), (1, .int (nI q)), (2, .int (nI 1)), (3, .int (nI 0))]) hC [1, 2, 3, 0] dX6_power_3 rfl (by decide) rfl ?_
  have L4 : ∀ (n : Nat) (i : Nat) (t : Nat), (i ≤ q) → (t = a ^ i) → q - i < n → G p l e rm_X6_power s m args below meth cd D A 0 0 Q 4 [] 4 [(0, .int (nI a)), (1, .int (nI q)), (2, .int (nI t)), (3, .int (nI i))] [] := by
    intro n
    induction n with
    | zero => intro i t hi ht hn; exact absurd hn (Nat.not_lt_zero _)
    | succ n ih4 =>
      intro i t hi ht hn
      refine g_iload_n hC 3 dX6_power_4 rfl rfl ?_
      refine g_iload_n hC 1 dX6_power_5 rfl rfl ?_
      refine g_icmp_ge_n (a := i) (b := q) hC (by omega) (by omega) 19 dX6_power_6 (by decide) (fun h6t => ?_) (fun h6f => ?_)
      · refine g_iload_n hC 2 dX6_power_19 rfl rfl ?_
        subst hQ
        refine g_iret (v := nI t) hC () hr ?_ rfl dX6_power_20
        have ei : i = q := by omega
        rw [ei] at ht; rw [ht]
      refine g_iload_n hC 2 dX6_power_9 rfl rfl ?_
      refine g_iload_n hC 0 dX6_power_10 rfl rfl ?_
      refine g_imul_n (a := t) (b := a) hC dX6_power_11 ?_
      refine g_istore_n (lv' := [(0, .int (nI a)), (1, .int (nI q)), (2, .int (nI (t * a))), (3, .int (nI i))]) hC [1, 2, 0, 3] dX6_power_12 rfl (by decide) rfl ?_
      refine g_iinc (v := nI (i + 1)) (lv' := [(0, .int (nI a)), (1, .int (nI q)), (2, .int (nI (t * a))), (3, .int (nI (i + 1)))]) hC 3 [1, 2, 3, 0] dX6_power_13 rfl (nI_add _ 1) (by decide) rfl ?_
      refine g_goto hC 4 dX6_power_16 (by decide) ?_
      refine ih4 (i + 1) (t * a) ?_ ?_ ?_
      · omega
      · rw [ht, Nat.pow_succ]
      · omega
  refine L4 _ 0 1 ?_ ?_ (Nat.lt_succ_self _)
  · omega
  · rfl

abbrev rm_X6_noPerson : Room := { frames := 1, cells := 0, slots := 0, locals := 25 }
set_option maxRecDepth 100000 in
set_option maxHeartbeats 4000000 in
theorem c_X6_noPerson (l : Launch) (D : va_G) (cI cZ : ClassId) (mo : Nat) (rm : Nat → Nat) (tl : Nat) (pl : Int32) (np : Nat) (nq : Nat) (nd : Nat) (rt : Int32) (rp : Int32) (rq : Int32) (rd : Int32) (cnt : Nat) (na : Nat) (sd : Int64) (rw : Int32) (rx : Int32) (tm : Int32) (tf : Int32) (sm : Int32) (sf : Int32) (a : Int32) (hb : np ≤ 5) : CtI l yX6_noPerson wsX6_noPerson rm_X6_noPerson D cI cZ [.ref mo, .int a] [(mo, o6 rm (nI tl) pl (nI np) (nI nq) (nI nd) rt rp rq rd (nI cnt) (nI na) sd rw rx tm tf sm sf)] (fun r (_ : Unit) => r = bI (¬ inR a np)) (fun (_ : Unit) => [(mo, o6 rm (nI tl) pl (nI np) (nI nq) (nI nd) rt rp rq rd (nI cnt) (nI na) sd rw rx tm tf sm sf)]) 0 0 := by
  refine g_startI (ret := (some .boolean)) (own := RX6) (lv0 := [(0, .ref mo), (1, .int a)]) (by decide) rfl rfl (Nat.le_of_ble_eq_true rfl) rfl ?_
  intro p e s m args below meth cd A Q hin hr hQ hC
  have hcw6 : ∀ w ∈ wsX60, w ∈ wsX6_noPerson := fun _ h => List.mem_cons_of_mem _ (List.mem_append_right _ h)
  have w1 := hC.1.2.2.2.2 (.fieldLink "PluckBrokerModel" 72 "PluckBrokerModel" "persons" "I") (List.mem_of_getElem? (i := 1) rfl)
  refine g_iload_n hC 1 dX6_noPerson_0 rfl rfl ?_
  refine g_i2l hC dX6_noPerson_1 rfl ?_
  refine g_lconst (v := (nI 0).toInt64) hC dX6_noPerson_2 (by decide +kernel) ?_
  refine g_aload_n hC 0 dX6_noPerson_3 rfl rfl ?_
  refine g_get (C := RX6) (T := TX6) (N := 38) (ci := 6) (v := .int (nI np)) hC hcw6 0 rfl rfl 4 (by decide) w1 (fun _ h => h) rfl dX6_noPerson_4 ?_
  refine g_iconst (v := nI 1) hC dX6_noPerson_7 rfl ?_
  refine g_isub hC dX6_noPerson_8 ?_
  refine g_i2l hC dX6_noPerson_9 rfl ?_
  refine g_callSip (As := [.long a.toInt64, .long ((nI 0).toInt64), .long (((nI np) - (nI 1)).toInt64)]) (rest := []) hC (bI ((nI 0) ≤ a ∧ a ≤ ((nI np) - (nI 1)))) (c_X6_in l D cI cZ a (nI 0) ((nI np) - (nI 1))) (va_cwS 3 hC.1.2.2.2.2 gX6_noPerson_X6_in rfl rfl rfl dS_X6_in ⟨Nat.le_of_ble_eq_true rfl, Nat.le_of_ble_eq_true rfl⟩) rfl rfl (Nat.le_of_ble_eq_true rfl) dX6_noPerson_10 ⟨Nat.le_of_ble_eq_true rfl, Nat.le_of_ble_eq_true rfl⟩ [] rfl rfl ?_
  refine g_if_ne_b hC 20 dX6_noPerson_13 (by decide) (fun h13t => ?_) (fun h13f => ?_)
  · refine g_iconst (v := nI 0) hC dX6_noPerson_20 rfl ?_
    subst hQ
    refine g_zret (v := nI 0) hC () hr (by decide +kernel) ?_ rfl dX6_noPerson_21
    exact (bI_f (P := ¬ inR a np) (fun q => q ((inR_m1 (n := np) (by omega)).mp h13t))).symm
  refine g_iconst (v := nI 1) hC dX6_noPerson_16 rfl ?_
  refine g_goto hC 21 dX6_noPerson_17 (by decide) ?_
  subst hQ
  refine g_zret (v := nI 1) hC () hr (by decide +kernel) ?_ rfl dX6_noPerson_21
  exact (bI_t (P := ¬ inR a np) (fun q => h13f ((inR_m1 (n := np) (by omega)).mpr q))).symm

abbrev rm_X6_noQuality : Room := { frames := 1, cells := 0, slots := 0, locals := 25 }
set_option maxRecDepth 100000 in
set_option maxHeartbeats 4000000 in
theorem c_X6_noQuality (l : Launch) (D : va_G) (cI cZ : ClassId) (mo : Nat) (rm : Nat → Nat) (tl : Nat) (pl : Int32) (np : Nat) (nq : Nat) (nd : Nat) (rt : Int32) (rp : Int32) (rq : Int32) (rd : Int32) (cnt : Nat) (na : Nat) (sd : Int64) (rw : Int32) (rx : Int32) (tm : Int32) (tf : Int32) (sm : Int32) (sf : Int32) (a : Int32) (hb : nq ≤ 5) : CtI l yX6_noQuality wsX6_noQuality rm_X6_noQuality D cI cZ [.ref mo, .int a] [(mo, o6 rm (nI tl) pl (nI np) (nI nq) (nI nd) rt rp rq rd (nI cnt) (nI na) sd rw rx tm tf sm sf)] (fun r (_ : Unit) => r = bI (¬ inR a nq)) (fun (_ : Unit) => [(mo, o6 rm (nI tl) pl (nI np) (nI nq) (nI nd) rt rp rq rd (nI cnt) (nI na) sd rw rx tm tf sm sf)]) 0 0 := by
  refine g_startI (ret := (some .boolean)) (own := RX6) (lv0 := [(0, .ref mo), (1, .int a)]) (by decide) rfl rfl (Nat.le_of_ble_eq_true rfl) rfl ?_
  intro p e s m args below meth cd A Q hin hr hQ hC
  have hcw6 : ∀ w ∈ wsX60, w ∈ wsX6_noQuality := fun _ h => List.mem_cons_of_mem _ (List.mem_append_right _ h)
  have w1 := hC.1.2.2.2.2 (.fieldLink "PluckBrokerModel" 79 "PluckBrokerModel" "qualities" "I") (List.mem_of_getElem? (i := 1) rfl)
  refine g_iload_n hC 1 dX6_noQuality_0 rfl rfl ?_
  refine g_i2l hC dX6_noQuality_1 rfl ?_
  refine g_lconst (v := (nI 0).toInt64) hC dX6_noQuality_2 (by decide +kernel) ?_
  refine g_aload_n hC 0 dX6_noQuality_3 rfl rfl ?_
  refine g_get (C := RX6) (T := TX6) (N := 38) (ci := 6) (v := .int (nI nq)) hC hcw6 0 rfl rfl 5 (by decide) w1 (fun _ h => h) rfl dX6_noQuality_4 ?_
  refine g_iconst (v := nI 1) hC dX6_noQuality_7 rfl ?_
  refine g_isub hC dX6_noQuality_8 ?_
  refine g_i2l hC dX6_noQuality_9 rfl ?_
  refine g_callSip (As := [.long a.toInt64, .long ((nI 0).toInt64), .long (((nI nq) - (nI 1)).toInt64)]) (rest := []) hC (bI ((nI 0) ≤ a ∧ a ≤ ((nI nq) - (nI 1)))) (c_X6_in l D cI cZ a (nI 0) ((nI nq) - (nI 1))) (va_cwS 3 hC.1.2.2.2.2 gX6_noQuality_X6_in rfl rfl rfl dS_X6_in ⟨Nat.le_of_ble_eq_true rfl, Nat.le_of_ble_eq_true rfl⟩) rfl rfl (Nat.le_of_ble_eq_true rfl) dX6_noQuality_10 ⟨Nat.le_of_ble_eq_true rfl, Nat.le_of_ble_eq_true rfl⟩ [] rfl rfl ?_
  refine g_if_ne_b hC 20 dX6_noQuality_13 (by decide) (fun h13t => ?_) (fun h13f => ?_)
  · refine g_iconst (v := nI 0) hC dX6_noQuality_20 rfl ?_
    subst hQ
    refine g_zret (v := nI 0) hC () hr (by decide +kernel) ?_ rfl dX6_noQuality_21
    exact (bI_f (P := ¬ inR a nq) (fun q => q ((inR_m1 (n := nq) (by omega)).mp h13t))).symm
  refine g_iconst (v := nI 1) hC dX6_noQuality_16 rfl ?_
  refine g_goto hC 21 dX6_noQuality_17 (by decide) ?_
  subst hQ
  refine g_zret (v := nI 1) hC () hr (by decide +kernel) ?_ rfl dX6_noQuality_21
  exact (bI_t (P := ¬ inR a nq) (fun q => h13f ((inR_m1 (n := nq) (by omega)).mpr q))).symm

abbrev rm_X6_noDeed : Room := { frames := 1, cells := 0, slots := 0, locals := 25 }
set_option maxRecDepth 100000 in
set_option maxHeartbeats 4000000 in
theorem c_X6_noDeed (l : Launch) (D : va_G) (cI cZ : ClassId) (mo : Nat) (rm : Nat → Nat) (tl : Nat) (pl : Int32) (np : Nat) (nq : Nat) (nd : Nat) (rt : Int32) (rp : Int32) (rq : Int32) (rd : Int32) (cnt : Nat) (na : Nat) (sd : Int64) (rw : Int32) (rx : Int32) (tm : Int32) (tf : Int32) (sm : Int32) (sf : Int32) (a : Int32) (hb : nd ≤ 5) : CtI l yX6_noDeed wsX6_noDeed rm_X6_noDeed D cI cZ [.ref mo, .int a] [(mo, o6 rm (nI tl) pl (nI np) (nI nq) (nI nd) rt rp rq rd (nI cnt) (nI na) sd rw rx tm tf sm sf)] (fun r (_ : Unit) => r = bI (¬ inR a nd)) (fun (_ : Unit) => [(mo, o6 rm (nI tl) pl (nI np) (nI nq) (nI nd) rt rp rq rd (nI cnt) (nI na) sd rw rx tm tf sm sf)]) 0 0 := by
  refine g_startI (ret := (some .boolean)) (own := RX6) (lv0 := [(0, .ref mo), (1, .int a)]) (by decide) rfl rfl (Nat.le_of_ble_eq_true rfl) rfl ?_
  intro p e s m args below meth cd A Q hin hr hQ hC
  have hcw6 : ∀ w ∈ wsX60, w ∈ wsX6_noDeed := fun _ h => List.mem_cons_of_mem _ (List.mem_append_right _ h)
  have w1 := hC.1.2.2.2.2 (.fieldLink "PluckBrokerModel" 82 "PluckBrokerModel" "deeds" "I") (List.mem_of_getElem? (i := 1) rfl)
  refine g_iload_n hC 1 dX6_noDeed_0 rfl rfl ?_
  refine g_i2l hC dX6_noDeed_1 rfl ?_
  refine g_lconst (v := (nI 0).toInt64) hC dX6_noDeed_2 (by decide +kernel) ?_
  refine g_aload_n hC 0 dX6_noDeed_3 rfl rfl ?_
  refine g_get (C := RX6) (T := TX6) (N := 38) (ci := 6) (v := .int (nI nd)) hC hcw6 0 rfl rfl 9 (by decide) w1 (fun _ h => h) rfl dX6_noDeed_4 ?_
  refine g_iconst (v := nI 1) hC dX6_noDeed_7 rfl ?_
  refine g_isub hC dX6_noDeed_8 ?_
  refine g_i2l hC dX6_noDeed_9 rfl ?_
  refine g_callSip (As := [.long a.toInt64, .long ((nI 0).toInt64), .long (((nI nd) - (nI 1)).toInt64)]) (rest := []) hC (bI ((nI 0) ≤ a ∧ a ≤ ((nI nd) - (nI 1)))) (c_X6_in l D cI cZ a (nI 0) ((nI nd) - (nI 1))) (va_cwS 3 hC.1.2.2.2.2 gX6_noDeed_X6_in rfl rfl rfl dS_X6_in ⟨Nat.le_of_ble_eq_true rfl, Nat.le_of_ble_eq_true rfl⟩) rfl rfl (Nat.le_of_ble_eq_true rfl) dX6_noDeed_10 ⟨Nat.le_of_ble_eq_true rfl, Nat.le_of_ble_eq_true rfl⟩ [] rfl rfl ?_
  refine g_if_ne_b hC 20 dX6_noDeed_13 (by decide) (fun h13t => ?_) (fun h13f => ?_)
  · refine g_iconst (v := nI 0) hC dX6_noDeed_20 rfl ?_
    subst hQ
    refine g_zret (v := nI 0) hC () hr (by decide +kernel) ?_ rfl dX6_noDeed_21
    exact (bI_f (P := ¬ inR a nd) (fun q => q ((inR_m1 (n := nd) (by omega)).mp h13t))).symm
  refine g_iconst (v := nI 1) hC dX6_noDeed_16 rfl ?_
  refine g_goto hC 21 dX6_noDeed_17 (by decide) ?_
  subst hQ
  refine g_zret (v := nI 1) hC () hr (by decide +kernel) ?_ rfl dX6_noDeed_21
  exact (bI_t (P := ¬ inR a nd) (fun q => h13f ((inR_m1 (n := nd) (by omega)).mpr q))).symm

abbrev rm_X6_dueBy : Room := { frames := 0, cells := 0, slots := 0, locals := 0 }
set_option maxRecDepth 100000 in
set_option maxHeartbeats 4000000 in
theorem c_X6_dueBy (l : Launch) (D : va_G) (cI cZ : ClassId) (w : Int32) (k : Int32) (d : Int32) (o : Int32) : CtI l yX6_dueBy wsX6_dueBy rm_X6_dueBy D cI cZ [.int w, .int k, .int d, .int o] [] (fun r (_ : Unit) => r = dueF k w d o) (fun (_ : Unit) => []) 0 0 := by
  refine g_startI (ret := (some .int)) (own := RX6) (lv0 := [(0, .int w), (1, .int k), (2, .int d), (3, .int o)]) (by decide) rfl rfl (Nat.le_of_ble_eq_true rfl) rfl ?_
  intro p e s m args below meth cd A Q hin hr hQ hC
  refine g_iload_n hC 1 dX6_dueBy_0 rfl rfl ?_
  refine g_iconst (v := nI 3) hC dX6_dueBy_1 rfl ?_
  refine g_icmp_eq hC 19 dX6_dueBy_2 (by decide) (fun h2t => ?_) (fun h2f => ?_)
  · refine g_iload_n hC 0 dX6_dueBy_19 rfl rfl ?_
    subst hQ
    refine g_iret (v := w) hC () hr ?_ rfl dX6_dueBy_20
    rw [h2t, dueF, if_neg (by decide), if_neg (by decide), if_pos rfl]
  refine g_iload_n hC 1 dX6_dueBy_5 rfl rfl ?_
  refine g_iconst (v := nI 2) hC dX6_dueBy_6 rfl ?_
  refine g_icmp_ne hC 21 dX6_dueBy_7 (by decide) (fun h7t => ?_) (fun h7f => ?_)
  · refine g_iload_n hC 1 dX6_dueBy_21 rfl rfl ?_
    refine g_iconst (v := nI 1) hC dX6_dueBy_22 rfl ?_
    refine g_icmp_ne hC 34 dX6_dueBy_23 (by decide) (fun h23t => ?_) (fun h23f => ?_)
    · refine g_iload_n hC 0 dX6_dueBy_34 rfl rfl ?_
      refine g_iload_n hC 2 dX6_dueBy_35 rfl rfl ?_
      refine g_iadd hC dX6_dueBy_36 ?_
      subst hQ
      refine g_iret (v := w + d) hC () hr ?_ rfl dX6_dueBy_37
      rw [dueF, if_neg h23t, if_neg h7t, if_neg h2f]
    refine g_iload_n hC 0 dX6_dueBy_26 rfl rfl ?_
    refine g_iconst (v := nI 2) hC dX6_dueBy_27 rfl ?_
    refine g_iload_n hC 2 dX6_dueBy_28 rfl rfl ?_
    refine g_imul hC dX6_dueBy_29 ?_
    refine g_iadd hC dX6_dueBy_30 ?_
    refine g_goto hC 37 dX6_dueBy_31 (by decide) ?_
    subst hQ
    refine g_iret (v := w + ((nI 2) * d)) hC () hr ?_ rfl dX6_dueBy_37
    rw [dueF, if_pos h23f]
  refine g_iload_n hC 3 dX6_dueBy_10 rfl rfl ?_
  refine g_bipush (v := nI 7) hC dX6_dueBy_11 (by decide +kernel) ?_
  refine g_irem (x := o) (y := nI 7) hC dX6_dueBy_13 (by decide) ?_
  refine g_bipush (v := nI 6) hC dX6_dueBy_14 (by decide +kernel) ?_
  refine g_icmp_ne hC 21 dX6_dueBy_16 (by decide) (fun h16t => ?_) (fun h16f => ?_)
  · refine g_iload_n hC 1 dX6_dueBy_21 rfl rfl ?_
    refine g_iconst (v := nI 1) hC dX6_dueBy_22 rfl ?_
    refine g_icmp_ne hC 34 dX6_dueBy_23 (by decide) (fun h23t => ?_) (fun h23f => ?_)
    · refine g_iload_n hC 0 dX6_dueBy_34 rfl rfl ?_
      refine g_iload_n hC 2 dX6_dueBy_35 rfl rfl ?_
      refine g_iadd hC dX6_dueBy_36 ?_
      subst hQ
      refine g_iret (v := w + d) hC () hr ?_ rfl dX6_dueBy_37
      rw [dueF, if_neg h23t, if_pos h7f, if_neg h16t]
    refine g_iload_n hC 0 dX6_dueBy_26 rfl rfl ?_
    refine g_iconst (v := nI 2) hC dX6_dueBy_27 rfl ?_
    refine g_iload_n hC 2 dX6_dueBy_28 rfl rfl ?_
    refine g_imul hC dX6_dueBy_29 ?_
    refine g_iadd hC dX6_dueBy_30 ?_
    refine g_goto hC 37 dX6_dueBy_31 (by decide) ?_
    subst hQ
    refine g_iret (v := w + ((nI 2) * d)) hC () hr ?_ rfl dX6_dueBy_37
    rw [dueF, if_pos h23f]
  refine g_iload_n hC 0 dX6_dueBy_19 rfl rfl ?_
  subst hQ
  refine g_iret (v := w) hC () hr ?_ rfl dX6_dueBy_20
  rw [h7f, dueF, if_neg (by decide), if_pos rfl, if_pos h16f]

abbrev rm_X6_dueOf : Room := { frames := 1, cells := 0, slots := 0, locals := 23 }
set_option maxRecDepth 100000 in
set_option maxHeartbeats 4000000 in
theorem c_X6_dueOf (l : Launch) (D : va_G) (cI cZ : ClassId) (mo : Nat) (rm : Nat → Nat) (tl : Nat) (pl : Int32) (np : Nat) (nq : Nat) (nd : Nat) (rt : Int32) (rp : Int32) (rq : Int32) (rd : Int32) (cnt : Nat) (na : Nat) (sd : Int64) (rw : Int32) (rx : Int32) (tm : Int32) (tf : Int32) (sm : Int32) (sf : Int32) (P : Nat → Nat → Nat) (pa : Nat) (c : Nat → Int32) (k : Nat) (hk : k < 5) : CtI l yX6_dueOf wsX6_dueOf rm_X6_dueOf D cI cZ [.ref mo, .ref pa, .int (nI k)] [(mo, o6 rm (nI tl) pl (nI np) (nI nq) (nI nd) rt rp rq rd (nI cnt) (nI na) sd rw rx tm tf sm sf), (rm 2, .inl (cI, 5, .inl (fun k_ => nI (P 1 k_)))), (rm 3, .inl (cI, 5, .inl (fun k_ => nI (P 2 k_)))), (pa, .inl (cI, 20, .inl (mp c)))] (fun r (_ : Unit) => r = owed P c k) (fun (_ : Unit) => [(mo, o6 rm (nI tl) pl (nI np) (nI nq) (nI nd) rt rp rq rd (nI cnt) (nI na) sd rw rx tm tf sm sf), (rm 2, .inl (cI, 5, .inl (fun k_ => nI (P 1 k_)))), (rm 3, .inl (cI, 5, .inl (fun k_ => nI (P 2 k_)))), (pa, .inl (cI, 20, .inl (mp c)))]) 0 0 := by
  refine g_startI (ret := (some .int)) (own := RX6) (lv0 := [(0, .ref mo), (1, .ref pa), (2, .int (nI k))]) (by decide) rfl rfl (Nat.le_of_ble_eq_true rfl) rfl ?_
  intro p e s m args below meth cd A Q hin hr hQ hC
  have hcw6 : ∀ w ∈ wsX60, w ∈ wsX6_dueOf := fun _ h => List.mem_cons_of_mem _ (List.mem_append_right _ h)
  have w1 := hC.1.2.2.2.2 (.fieldLink "PluckBrokerModel" 16 "PluckBrokerModel" "worth" "[I") (List.mem_of_getElem? (i := 1) rfl)
  have w2 := hC.1.2.2.2.2 (.fieldLink "PluckBrokerModel" 19 "PluckBrokerModel" "kind" "[I") (List.mem_of_getElem? (i := 2) rfl)
  refine g_aload_n hC 1 dX6_dueOf_0 rfl rfl ?_
  refine g_iconst (v := nI 4) hC dX6_dueOf_1 rfl ?_
  refine g_iload_n hC 2 dX6_dueOf_2 rfl rfl ?_
  refine g_iadd_n (a := 4) (b := k) hC dX6_dueOf_3 ?_
  refine g_iald hC 3 rfl (4 + k) rfl (by omega) (by decide) dX6_dueOf_4 ?_
  refine g_top (y := c (5 + k)) (mp_4 _ (by omega)) ?_
  refine g_iconst (v := nI 1) hC dX6_dueOf_5 rfl ?_
  refine g_icmp_ne hC 42 dX6_dueOf_6 (by decide) (fun h6t => ?_) (fun h6f => ?_)
  · refine g_iconst (v := nI 0) hC dX6_dueOf_42 rfl ?_
    subst hQ
    refine g_iret (v := nI 0) hC () hr ?_ rfl dX6_dueOf_43
    rw [owed, if_neg h6t]
  refine g_aload_n hC 0 dX6_dueOf_9 rfl rfl ?_
  refine g_get (C := RX6) (T := TX6) (N := 38) (ci := 6) (v := .ref (rm 2)) hC hcw6 0 rfl rfl 7 (by decide) w1 (fun _ h => h) rfl dX6_dueOf_10 ?_
  refine g_iload_n hC 2 dX6_dueOf_13 rfl rfl ?_
  refine g_iald hC 1 rfl k rfl (by omega) (by decide) dX6_dueOf_14 ?_
  refine g_aload_n hC 0 dX6_dueOf_15 rfl rfl ?_
  refine g_get (C := RX6) (T := TX6) (N := 38) (ci := 6) (v := .ref (rm 3)) hC hcw6 0 rfl rfl 8 (by decide) w2 (fun _ h => h) rfl dX6_dueOf_16 ?_
  refine g_iload_n hC 2 dX6_dueOf_19 rfl rfl ?_
  refine g_iald hC 2 rfl k rfl (by omega) (by decide) dX6_dueOf_20 ?_
  refine g_aload_n hC 1 dX6_dueOf_21 rfl rfl ?_
  refine g_bipush (v := nI 19) hC dX6_dueOf_22 (by decide +kernel) ?_
  refine g_iald hC 3 rfl 19 rfl (by omega) (by decide) dX6_dueOf_24 ?_
  refine g_top (y := c 1) (mp_19 _) ?_
  refine g_aload_n hC 1 dX6_dueOf_25 rfl rfl ?_
  refine g_bipush (v := nI 9) hC dX6_dueOf_26 (by decide +kernel) ?_
  refine g_iload_n hC 2 dX6_dueOf_28 rfl rfl ?_
  refine g_iadd_n (a := 9) (b := k) hC dX6_dueOf_29 ?_
  refine g_iald hC 3 rfl (9 + k) rfl (by omega) (by decide) dX6_dueOf_30 ?_
  refine g_top (y := c (10 + k)) (mp_9 _ (by omega)) ?_
  refine g_isub hC dX6_dueOf_31 ?_
  refine g_aload_n hC 1 dX6_dueOf_32 rfl rfl ?_
  refine g_bipush (v := nI 19) hC dX6_dueOf_33 (by decide +kernel) ?_
  refine g_iald hC 3 rfl 19 rfl (by omega) (by decide) dX6_dueOf_35 ?_
  refine g_top (y := c 1) (mp_19 _) ?_
  refine g_callSip (As := [.int (nI (P 1 k)), .int (nI (P 2 k)), .int ((c 1) - (c (10 + k))), .int (c 1)]) (rest := []) hC (dueF (nI (P 2 k)) (nI (P 1 k)) ((c 1) - (c (10 + k))) (c 1)) (c_X6_dueBy l D cI cZ (nI (P 1 k)) (nI (P 2 k)) ((c 1) - (c (10 + k))) (c 1)) (va_cwS 4 hC.1.2.2.2.2 gX6_dueOf_X6_dueBy rfl rfl rfl dS_X6_dueBy ⟨Nat.le_of_ble_eq_true rfl, Nat.le_of_ble_eq_true rfl⟩) rfl rfl (Nat.le_of_ble_eq_true rfl) dX6_dueOf_36 ⟨Nat.le_of_ble_eq_true rfl, Nat.le_of_ble_eq_true rfl⟩ [] rfl rfl ?_
  refine g_goto hC 43 dX6_dueOf_39 (by decide) ?_
  subst hQ
  refine g_iret (v := dueF (nI (P 2 k)) (nI (P 1 k)) ((c 1) - (c (10 + k))) (c 1)) hC () hr ?_ rfl dX6_dueOf_43
  rw [owed, if_pos h6f]

abbrev rm_X6_thatAre : Room := { frames := 0, cells := 0, slots := 0, locals := 0 }
set_option maxRecDepth 100000 in
set_option maxHeartbeats 4000000 in
theorem c_X6_thatAre (l : Launch) (D : va_G) (cI cZ : ClassId) (mo : Nat) (rm : Nat → Nat) (tl : Nat) (pl : Int32) (np : Nat) (nq : Nat) (nd : Nat) (rt : Int32) (rp : Int32) (rq : Int32) (rd : Int32) (cnt : Nat) (na : Nat) (sd : Int64) (rw : Int32) (rx : Int32) (tm : Int32) (tf : Int32) (sm : Int32) (sf : Int32) (pa : Nat) (c : Nat → Int32) (a : Int32) (hb : nq ≤ 5) : CtI l yX6_thatAre wsX6_thatAre rm_X6_thatAre D cI cZ [.ref mo, .ref pa, .int a] [(mo, o6 rm (nI tl) pl (nI np) (nI nq) (nI nd) rt rp rq rd (nI cnt) (nI na) sd rw rx tm tf sm sf), (pa, .inl (cI, 20, .inl (mp c)))] (fun r (_ : Unit) => r = nI (thatAre nq c a)) (fun (_ : Unit) => [(mo, o6 rm (nI tl) pl (nI np) (nI nq) (nI nd) rt rp rq rd (nI cnt) (nI na) sd rw rx tm tf sm sf), (pa, .inl (cI, 20, .inl (mp c)))]) 0 0 := by
  refine g_startI (ret := (some .int)) (own := RX6) (lv0 := [(0, .ref mo), (1, .ref pa), (2, .int a)]) (by decide) rfl rfl (Nat.le_of_ble_eq_true rfl) rfl ?_
  intro p e s m args below meth cd A Q hin hr hQ hC
  have hcw6 : ∀ w ∈ wsX60, w ∈ wsX6_thatAre := fun _ h => List.mem_cons_of_mem _ (List.mem_append_right _ h)
  have w1 := hC.1.2.2.2.2 (.fieldLink "PluckBrokerModel" 79 "PluckBrokerModel" "qualities" "I") (List.mem_of_getElem? (i := 1) rfl)
  refine g_iconst (v := nI 0) hC dX6_thatAre_0 rfl ?_
  refine g_istore_n (lv' := [(0, .ref mo), (1, .ref pa), (2, .int a), (3, .int (nI 0))]) hC [1, 2, 3, 0] dX6_thatAre_1 rfl (by decide) rfl ?_
  refine g_iconst (v := nI 0) hC dX6_thatAre_2 rfl ?_
  refine g_istore (lv' := [(0, .ref mo), (1, .ref pa), (2, .int a), (3, .int (nI 0)), (4, .int (nI 0))]) hC [1, 2, 3, 4, 0] dX6_thatAre_3 (by decide) rfl ?_
  have L5 : ∀ (n : Nat) (i : Nat) (acc : Nat), (i ≤ nq) → (acc = bts i (fun q => decide (c (5 + q) = a))) → nq - i < n → G p l e rm_X6_thatAre s m args below meth cd D A 0 0 Q 5 [(mo, o6 rm (nI tl) pl (nI np) (nI nq) (nI nd) rt rp rq rd (nI cnt) (nI na) sd rw rx tm tf sm sf), (pa, .inl (cI, 20, .inl (mp c)))] 5 [(0, .ref mo), (1, .ref pa), (2, .int a), (3, .int (nI acc)), (4, .int (nI i))] [] := by
    intro n
    induction n with
    | zero => intro i acc hi hacc hn; exact absurd hn (Nat.not_lt_zero _)
    | succ n ih5 =>
      intro i acc hi hacc hn
      refine g_iload hC 4 dX6_thatAre_5 rfl ?_
      refine g_aload_n hC 0 dX6_thatAre_7 rfl rfl ?_
      refine g_get (C := RX6) (T := TX6) (N := 38) (ci := 6) (v := .int (nI nq)) hC hcw6 0 rfl rfl 5 (by decide) w1 (fun _ h => h) rfl dX6_thatAre_8 ?_
      refine g_icmp_ge_n (a := i) (b := nq) hC (by omega) (by omega) 41 dX6_thatAre_11 (by decide) (fun h11t => ?_) (fun h11f => ?_)
      · refine g_iload_n hC 3 dX6_thatAre_41 rfl rfl ?_
        subst hQ
        refine g_iret (v := nI acc) hC () hr ?_ rfl dX6_thatAre_42
        have ei : i = nq := by omega
        rw [ei] at hacc; rw [hacc]; rfl
      refine g_iload_n hC 3 dX6_thatAre_14 rfl rfl ?_
      refine g_aload_n hC 1 dX6_thatAre_15 rfl rfl ?_
      refine g_iconst (v := nI 4) hC dX6_thatAre_16 rfl ?_
      refine g_iload hC 4 dX6_thatAre_17 rfl ?_
      refine g_iadd_n (a := 4) (b := i) hC dX6_thatAre_19 ?_
      refine g_iald hC 1 rfl (4 + i) rfl (by omega) (by decide) dX6_thatAre_20 ?_
      refine g_top (y := c (5 + i)) (mp_4 _ (by omega)) ?_
      refine g_iload_n hC 2 dX6_thatAre_21 rfl rfl ?_
      refine g_icmp_ne hC 32 dX6_thatAre_22 (by decide) (fun h22t => ?_) (fun h22f => ?_)
      · refine g_iconst (v := nI 0) hC dX6_thatAre_32 rfl ?_
        refine g_ior_n (a := acc) (b := 0) hC dX6_thatAre_33 ?_
        refine g_istore_n (lv' := [(0, .ref mo), (1, .ref pa), (2, .int a), (3, .int (nI (acc ||| 0))), (4, .int (nI i))]) hC [1, 2, 3, 0, 4] dX6_thatAre_34 rfl (by decide) rfl ?_
        refine g_iinc (v := nI (i + 1)) (lv' := [(0, .ref mo), (1, .ref pa), (2, .int a), (3, .int (nI (acc ||| 0))), (4, .int (nI (i + 1)))]) hC 4 [1, 2, 3, 4, 0] dX6_thatAre_35 rfl (nI_add _ 1) (by decide) rfl ?_
        refine g_goto hC 5 dX6_thatAre_38 (by decide) ?_
        refine ih5 (i + 1) (acc ||| 0) ?_ ?_ ?_
        · omega
        · rw [hacc]; exact bts_f (decide_eq_false h22t)
        · omega
      refine g_iconst (v := nI 1) hC dX6_thatAre_25 rfl ?_
      refine g_iload hC 4 dX6_thatAre_26 rfl ?_
      refine g_shl1_n (b := i) hC (by omega) dX6_thatAre_28 ?_
      refine g_goto hC 33 dX6_thatAre_29 (by decide) ?_
      refine g_ior_n (a := acc) (b := (2 ^ i)) hC dX6_thatAre_33 ?_
      refine g_istore_n (lv' := [(0, .ref mo), (1, .ref pa), (2, .int a), (3, .int (nI (acc ||| (2 ^ i)))), (4, .int (nI i))]) hC [1, 2, 3, 0, 4] dX6_thatAre_34 rfl (by decide) rfl ?_
      refine g_iinc (v := nI (i + 1)) (lv' := [(0, .ref mo), (1, .ref pa), (2, .int a), (3, .int (nI (acc ||| (2 ^ i)))), (4, .int (nI (i + 1)))]) hC 4 [1, 2, 3, 4, 0] dX6_thatAre_35 rfl (nI_add _ 1) (by decide) rfl ?_
      refine g_goto hC 5 dX6_thatAre_38 (by decide) ?_
      refine ih5 (i + 1) (acc ||| (2 ^ i)) ?_ ?_ ?_
      · omega
      · rw [hacc]; exact bts_t (decide_eq_true h22f)
      · omega
  refine L5 _ 0 0 ?_ ?_ (Nat.lt_succ_self _)
  · omega
  · rfl

abbrev rm_X6_deedsThat : Room := { frames := 0, cells := 0, slots := 0, locals := 0 }
set_option maxRecDepth 100000 in
set_option maxHeartbeats 4000000 in
theorem c_X6_deedsThat (l : Launch) (D : va_G) (cI cZ : ClassId) (mo : Nat) (rm : Nat → Nat) (tl : Nat) (pl : Int32) (np : Nat) (nq : Nat) (nd : Nat) (rt : Int32) (rp : Int32) (rq : Int32) (rd : Int32) (cnt : Nat) (na : Nat) (sd : Int64) (rw : Int32) (rx : Int32) (tm : Int32) (tf : Int32) (sm : Int32) (sf : Int32) (pa : Nat) (c : Nat → Int32) (a : Int32) (hb : nd ≤ 5) : CtI l yX6_deedsThat wsX6_deedsThat rm_X6_deedsThat D cI cZ [.ref mo, .ref pa, .int a] [(mo, o6 rm (nI tl) pl (nI np) (nI nq) (nI nd) rt rp rq rd (nI cnt) (nI na) sd rw rx tm tf sm sf), (pa, .inl (cI, 20, .inl (mp c)))] (fun r (_ : Unit) => r = nI (deedsThat nd c a)) (fun (_ : Unit) => [(mo, o6 rm (nI tl) pl (nI np) (nI nq) (nI nd) rt rp rq rd (nI cnt) (nI na) sd rw rx tm tf sm sf), (pa, .inl (cI, 20, .inl (mp c)))]) 0 0 := by
  refine g_startI (ret := (some .int)) (own := RX6) (lv0 := [(0, .ref mo), (1, .ref pa), (2, .int a)]) (by decide) rfl rfl (Nat.le_of_ble_eq_true rfl) rfl ?_
  intro p e s m args below meth cd A Q hin hr hQ hC
  have hcw6 : ∀ w ∈ wsX60, w ∈ wsX6_deedsThat := fun _ h => List.mem_cons_of_mem _ (List.mem_append_right _ h)
  have w1 := hC.1.2.2.2.2 (.fieldLink "PluckBrokerModel" 82 "PluckBrokerModel" "deeds" "I") (List.mem_of_getElem? (i := 1) rfl)
  refine g_iconst (v := nI 0) hC dX6_deedsThat_0 rfl ?_
  refine g_istore_n (lv' := [(0, .ref mo), (1, .ref pa), (2, .int a), (3, .int (nI 0))]) hC [1, 2, 3, 0] dX6_deedsThat_1 rfl (by decide) rfl ?_
  refine g_iconst (v := nI 0) hC dX6_deedsThat_2 rfl ?_
  refine g_istore (lv' := [(0, .ref mo), (1, .ref pa), (2, .int a), (3, .int (nI 0)), (4, .int (nI 0))]) hC [1, 2, 3, 4, 0] dX6_deedsThat_3 (by decide) rfl ?_
  have L5 : ∀ (n : Nat) (i : Nat) (acc : Nat), (i ≤ nd) → (acc = bts i (fun d => decide (c (15 + d) = a))) → nd - i < n → G p l e rm_X6_deedsThat s m args below meth cd D A 0 0 Q 5 [(mo, o6 rm (nI tl) pl (nI np) (nI nq) (nI nd) rt rp rq rd (nI cnt) (nI na) sd rw rx tm tf sm sf), (pa, .inl (cI, 20, .inl (mp c)))] 5 [(0, .ref mo), (1, .ref pa), (2, .int a), (3, .int (nI acc)), (4, .int (nI i))] [] := by
    intro n
    induction n with
    | zero => intro i acc hi hacc hn; exact absurd hn (Nat.not_lt_zero _)
    | succ n ih5 =>
      intro i acc hi hacc hn
      refine g_iload hC 4 dX6_deedsThat_5 rfl ?_
      refine g_aload_n hC 0 dX6_deedsThat_7 rfl rfl ?_
      refine g_get (C := RX6) (T := TX6) (N := 38) (ci := 6) (v := .int (nI nd)) hC hcw6 0 rfl rfl 9 (by decide) w1 (fun _ h => h) rfl dX6_deedsThat_8 ?_
      refine g_icmp_ge_n (a := i) (b := nd) hC (by omega) (by omega) 42 dX6_deedsThat_11 (by decide) (fun h11t => ?_) (fun h11f => ?_)
      · refine g_iload_n hC 3 dX6_deedsThat_42 rfl rfl ?_
        subst hQ
        refine g_iret (v := nI acc) hC () hr ?_ rfl dX6_deedsThat_43
        have ei : i = nd := by omega
        rw [ei] at hacc; rw [hacc]; rfl
      refine g_iload_n hC 3 dX6_deedsThat_14 rfl rfl ?_
      refine g_aload_n hC 1 dX6_deedsThat_15 rfl rfl ?_
      refine g_bipush (v := nI 14) hC dX6_deedsThat_16 (by decide +kernel) ?_
      refine g_iload hC 4 dX6_deedsThat_18 rfl ?_
      refine g_iadd_n (a := 14) (b := i) hC dX6_deedsThat_20 ?_
      refine g_iald hC 1 rfl (14 + i) rfl (by omega) (by decide) dX6_deedsThat_21 ?_
      refine g_top (y := c (15 + i)) (mp_14 _ (by omega)) ?_
      refine g_iload_n hC 2 dX6_deedsThat_22 rfl rfl ?_
      refine g_icmp_ne hC 33 dX6_deedsThat_23 (by decide) (fun h23t => ?_) (fun h23f => ?_)
      · refine g_iconst (v := nI 0) hC dX6_deedsThat_33 rfl ?_
        refine g_ior_n (a := acc) (b := 0) hC dX6_deedsThat_34 ?_
        refine g_istore_n (lv' := [(0, .ref mo), (1, .ref pa), (2, .int a), (3, .int (nI (acc ||| 0))), (4, .int (nI i))]) hC [1, 2, 3, 0, 4] dX6_deedsThat_35 rfl (by decide) rfl ?_
        refine g_iinc (v := nI (i + 1)) (lv' := [(0, .ref mo), (1, .ref pa), (2, .int a), (3, .int (nI (acc ||| 0))), (4, .int (nI (i + 1)))]) hC 4 [1, 2, 3, 4, 0] dX6_deedsThat_36 rfl (nI_add _ 1) (by decide) rfl ?_
        refine g_goto hC 5 dX6_deedsThat_39 (by decide) ?_
        refine ih5 (i + 1) (acc ||| 0) ?_ ?_ ?_
        · omega
        · rw [hacc]; exact bts_f (decide_eq_false h23t)
        · omega
      refine g_iconst (v := nI 1) hC dX6_deedsThat_26 rfl ?_
      refine g_iload hC 4 dX6_deedsThat_27 rfl ?_
      refine g_shl1_n (b := i) hC (by omega) dX6_deedsThat_29 ?_
      refine g_goto hC 34 dX6_deedsThat_30 (by decide) ?_
      refine g_ior_n (a := acc) (b := (2 ^ i)) hC dX6_deedsThat_34 ?_
      refine g_istore_n (lv' := [(0, .ref mo), (1, .ref pa), (2, .int a), (3, .int (nI (acc ||| (2 ^ i)))), (4, .int (nI i))]) hC [1, 2, 3, 0, 4] dX6_deedsThat_35 rfl (by decide) rfl ?_
      refine g_iinc (v := nI (i + 1)) (lv' := [(0, .ref mo), (1, .ref pa), (2, .int a), (3, .int (nI (acc ||| (2 ^ i)))), (4, .int (nI (i + 1)))]) hC 4 [1, 2, 3, 4, 0] dX6_deedsThat_36 rfl (nI_add _ 1) (by decide) rfl ?_
      refine g_goto hC 5 dX6_deedsThat_39 (by decide) ?_
      refine ih5 (i + 1) (acc ||| (2 ^ i)) ?_ ?_ ?_
      · omega
      · rw [hacc]; exact bts_t (decide_eq_true h23f)
      · omega
  refine L5 _ 0 0 ?_ ?_ (Nat.lt_succ_self _)
  · omega
  · rfl

abbrev rm_X6_ownOf : Room := { frames := 0, cells := 0, slots := 0, locals := 0 }
set_option maxRecDepth 100000 in
set_option maxHeartbeats 4000000 in
theorem c_X6_ownOf (l : Launch) (D : va_G) (cI cZ : ClassId) (mo : Nat) (rm : Nat → Nat) (tl : Nat) (pl : Int32) (np : Nat) (nq : Nat) (nd : Nat) (rt : Int32) (rp : Int32) (rq : Int32) (rd : Int32) (cnt : Nat) (na : Nat) (sd : Int64) (rw : Int32) (rx : Int32) (tm : Int32) (tf : Int32) (sm : Int32) (sf : Int32) (P : Nat → Nat → Nat) (a : Int32) (hb : nq ≤ 5) : CtI l yX6_ownOf wsX6_ownOf rm_X6_ownOf D cI cZ [.ref mo, .int a] [(mo, o6 rm (nI tl) pl (nI np) (nI nq) (nI nd) rt rp rq rd (nI cnt) (nI na) sd rw rx tm tf sm sf), (rm 1, .inl (cI, 5, .inl (fun k_ => nI (P 0 k_))))] (fun r (_ : Unit) => r = nI (ownB nq P a)) (fun (_ : Unit) => [(mo, o6 rm (nI tl) pl (nI np) (nI nq) (nI nd) rt rp rq rd (nI cnt) (nI na) sd rw rx tm tf sm sf), (rm 1, .inl (cI, 5, .inl (fun k_ => nI (P 0 k_))))]) 0 0 := by
  refine g_startI (ret := (some .int)) (own := RX6) (lv0 := [(0, .ref mo), (1, .int a)]) (by decide) rfl rfl (Nat.le_of_ble_eq_true rfl) rfl ?_
  intro p e s m args below meth cd A Q hin hr hQ hC
  have hcw6 : ∀ w ∈ wsX60, w ∈ wsX6_ownOf := fun _ h => List.mem_cons_of_mem _ (List.mem_append_right _ h)
  have w1 := hC.1.2.2.2.2 (.fieldLink "PluckBrokerModel" 79 "PluckBrokerModel" "qualities" "I") (List.mem_of_getElem? (i := 1) rfl)
  have w2 := hC.1.2.2.2.2 (.fieldLink "PluckBrokerModel" 13 "PluckBrokerModel" "owner" "[I") (List.mem_of_getElem? (i := 2) rfl)
  refine g_iconst (v := nI 0) hC dX6_ownOf_0 rfl ?_
  refine g_istore_n (lv' := [(0, .ref mo), (1, .int a), (2, .int (nI 0))]) hC [1, 2, 0] dX6_ownOf_1 rfl (by decide) rfl ?_
  refine g_iconst (v := nI 0) hC dX6_ownOf_2 rfl ?_
  refine g_istore_n (lv' := [(0, .ref mo), (1, .int a), (2, .int (nI 0)), (3, .int (nI 0))]) hC [1, 2, 3, 0] dX6_ownOf_3 rfl (by decide) rfl ?_
  have L4 : ∀ (n : Nat) (i : Nat) (acc : Nat), (i ≤ nq) → (acc = bts i (fun q => decide (nI (P 0 q) = a))) → nq - i < n → G p l e rm_X6_ownOf s m args below meth cd D A 0 0 Q 4 [(mo, o6 rm (nI tl) pl (nI np) (nI nq) (nI nd) rt rp rq rd (nI cnt) (nI na) sd rw rx tm tf sm sf), (rm 1, .inl (cI, 5, .inl (fun k_ => nI (P 0 k_))))] 4 [(0, .ref mo), (1, .int a), (2, .int (nI acc)), (3, .int (nI i))] [] := by
    intro n
    induction n with
    | zero => intro i acc hi hacc hn; exact absurd hn (Nat.not_lt_zero _)
    | succ n ih4 =>
      intro i acc hi hacc hn
      refine g_iload_n hC 3 dX6_ownOf_4 rfl rfl ?_
      refine g_aload_n hC 0 dX6_ownOf_5 rfl rfl ?_
      refine g_get (C := RX6) (T := TX6) (N := 38) (ci := 6) (v := .int (nI nq)) hC hcw6 0 rfl rfl 5 (by decide) w1 (fun _ h => h) rfl dX6_ownOf_6 ?_
      refine g_icmp_ge_n (a := i) (b := nq) hC (by omega) (by omega) 38 dX6_ownOf_9 (by decide) (fun h9t => ?_) (fun h9f => ?_)
      · refine g_iload_n hC 2 dX6_ownOf_38 rfl rfl ?_
        subst hQ
        refine g_iret (v := nI acc) hC () hr ?_ rfl dX6_ownOf_39
        have ei : i = nq := by omega
        rw [ei] at hacc; rw [hacc]; rfl
      refine g_iload_n hC 2 dX6_ownOf_12 rfl rfl ?_
      refine g_aload_n hC 0 dX6_ownOf_13 rfl rfl ?_
      refine g_get (C := RX6) (T := TX6) (N := 38) (ci := 6) (v := .ref (rm 1)) hC hcw6 0 rfl rfl 6 (by decide) w2 (fun _ h => h) rfl dX6_ownOf_14 ?_
      refine g_iload_n hC 3 dX6_ownOf_17 rfl rfl ?_
      refine g_iald hC 1 rfl i rfl (by omega) (by decide) dX6_ownOf_18 ?_
      refine g_iload_n hC 1 dX6_ownOf_19 rfl rfl ?_
      refine g_icmp_ne hC 29 dX6_ownOf_20 (by decide) (fun h20t => ?_) (fun h20f => ?_)
      · refine g_iconst (v := nI 0) hC dX6_ownOf_29 rfl ?_
        refine g_ior_n (a := acc) (b := 0) hC dX6_ownOf_30 ?_
        refine g_istore_n (lv' := [(0, .ref mo), (1, .int a), (2, .int (nI (acc ||| 0))), (3, .int (nI i))]) hC [1, 2, 0, 3] dX6_ownOf_31 rfl (by decide) rfl ?_
        refine g_iinc (v := nI (i + 1)) (lv' := [(0, .ref mo), (1, .int a), (2, .int (nI (acc ||| 0))), (3, .int (nI (i + 1)))]) hC 3 [1, 2, 3, 0] dX6_ownOf_32 rfl (nI_add _ 1) (by decide) rfl ?_
        refine g_goto hC 4 dX6_ownOf_35 (by decide) ?_
        refine ih4 (i + 1) (acc ||| 0) ?_ ?_ ?_
        · omega
        · rw [hacc]; exact bts_f (decide_eq_false h20t)
        · omega
      refine g_iconst (v := nI 1) hC dX6_ownOf_23 rfl ?_
      refine g_iload_n hC 3 dX6_ownOf_24 rfl rfl ?_
      refine g_shl1_n (b := i) hC (by omega) dX6_ownOf_25 ?_
      refine g_goto hC 30 dX6_ownOf_26 (by decide) ?_
      refine g_ior_n (a := acc) (b := (2 ^ i)) hC dX6_ownOf_30 ?_
      refine g_istore_n (lv' := [(0, .ref mo), (1, .int a), (2, .int (nI (acc ||| (2 ^ i)))), (3, .int (nI i))]) hC [1, 2, 0, 3] dX6_ownOf_31 rfl (by decide) rfl ?_
      refine g_iinc (v := nI (i + 1)) (lv' := [(0, .ref mo), (1, .int a), (2, .int (nI (acc ||| (2 ^ i)))), (3, .int (nI (i + 1)))]) hC 3 [1, 2, 3, 0] dX6_ownOf_32 rfl (nI_add _ 1) (by decide) rfl ?_
      refine g_goto hC 4 dX6_ownOf_35 (by decide) ?_
      refine ih4 (i + 1) (acc ||| (2 ^ i)) ?_ ?_ ?_
      · omega
      · rw [hacc]; exact bts_t (decide_eq_true h20f)
      · omega
  refine L4 _ 0 0 ?_ ?_ (Nat.lt_succ_self _)
  · omega
  · rfl

abbrev rm_X6_deedsOf : Room := { frames := 0, cells := 0, slots := 0, locals := 0 }
set_option maxRecDepth 100000 in
set_option maxHeartbeats 4000000 in
theorem c_X6_deedsOf (l : Launch) (D : va_G) (cI cZ : ClassId) (mo : Nat) (rm : Nat → Nat) (tl : Nat) (pl : Int32) (np : Nat) (nq : Nat) (nd : Nat) (rt : Int32) (rp : Int32) (rq : Int32) (rd : Int32) (cnt : Nat) (na : Nat) (sd : Int64) (rw : Int32) (rx : Int32) (tm : Int32) (tf : Int32) (sm : Int32) (sf : Int32) (P : Nat → Nat → Nat) (a : Int32) (hW : WFP np nq nd P) : CtI l yX6_deedsOf wsX6_deedsOf rm_X6_deedsOf D cI cZ [.ref mo, .int a] [(mo, o6 rm (nI tl) pl (nI np) (nI nq) (nI nd) rt rp rq rd (nI cnt) (nI na) sd rw rx tm tf sm sf), (rm 1, .inl (cI, 5, .inl (fun k_ => nI (P 0 k_)))), (rm 4, .inl (cI, 5, .inl (fun k_ => nI (P 3 k_))))] (fun r (_ : Unit) => r = nI (deedsB nd P a)) (fun (_ : Unit) => [(mo, o6 rm (nI tl) pl (nI np) (nI nq) (nI nd) rt rp rq rd (nI cnt) (nI na) sd rw rx tm tf sm sf), (rm 1, .inl (cI, 5, .inl (fun k_ => nI (P 0 k_)))), (rm 4, .inl (cI, 5, .inl (fun k_ => nI (P 3 k_))))]) 0 0 := by
  refine g_startI (ret := (some .int)) (own := RX6) (lv0 := [(0, .ref mo), (1, .int a)]) (by decide) rfl rfl (Nat.le_of_ble_eq_true rfl) rfl ?_
  intro p e s m args below meth cd A Q hin hr hQ hC
  have hcw6 : ∀ w ∈ wsX60, w ∈ wsX6_deedsOf := fun _ h => List.mem_cons_of_mem _ (List.mem_append_right _ h)
  have w1 := hC.1.2.2.2.2 (.fieldLink "PluckBrokerModel" 82 "PluckBrokerModel" "deeds" "I") (List.mem_of_getElem? (i := 1) rfl)
  have w2 := hC.1.2.2.2.2 (.fieldLink "PluckBrokerModel" 13 "PluckBrokerModel" "owner" "[I") (List.mem_of_getElem? (i := 2) rfl)
  have w3 := hC.1.2.2.2.2 (.fieldLink "PluckBrokerModel" 22 "PluckBrokerModel" "wants" "[I") (List.mem_of_getElem? (i := 3) rfl)
  obtain ⟨⟨hnp, hnq, hnd⟩, hq4, hd5⟩ := id hW
  refine g_iconst (v := nI 0) hC dX6_deedsOf_0 rfl ?_
  refine g_istore_n (lv' := [(0, .ref mo), (1, .int a), (2, .int (nI 0))]) hC [1, 2, 0] dX6_deedsOf_1 rfl (by decide) rfl ?_
  refine g_iconst (v := nI 0) hC dX6_deedsOf_2 rfl ?_
  refine g_istore_n (lv' := [(0, .ref mo), (1, .int a), (2, .int (nI 0)), (3, .int (nI 0))]) hC [1, 2, 3, 0] dX6_deedsOf_3 rfl (by decide) rfl ?_
  have L4 : ∀ (n : Nat) (i : Nat) (acc : Nat), (i ≤ nd) → (acc = bts i (fun d => decide (nI (P 0 (P 3 d)) = a))) → nd - i < n → G p l e rm_X6_deedsOf s m args below meth cd D A 0 0 Q 4 [(mo, o6 rm (nI tl) pl (nI np) (nI nq) (nI nd) rt rp rq rd (nI cnt) (nI na) sd rw rx tm tf sm sf), (rm 1, .inl (cI, 5, .inl (fun k_ => nI (P 0 k_)))), (rm 4, .inl (cI, 5, .inl (fun k_ => nI (P 3 k_))))] 4 [(0, .ref mo), (1, .int a), (2, .int (nI acc)), (3, .int (nI i))] [] := by
    intro n
    induction n with
    | zero => intro i acc hi hacc hn; exact absurd hn (Nat.not_lt_zero _)
    | succ n ih4 =>
      intro i acc hi hacc hn
      refine g_iload_n hC 3 dX6_deedsOf_4 rfl rfl ?_
      refine g_aload_n hC 0 dX6_deedsOf_5 rfl rfl ?_
      refine g_get (C := RX6) (T := TX6) (N := 38) (ci := 6) (v := .int (nI nd)) hC hcw6 0 rfl rfl 9 (by decide) w1 (fun _ h => h) rfl dX6_deedsOf_6 ?_
      refine g_icmp_ge_n (a := i) (b := nd) hC (by omega) (by omega) 43 dX6_deedsOf_9 (by decide) (fun h9t => ?_) (fun h9f => ?_)
      · refine g_iload_n hC 2 dX6_deedsOf_43 rfl rfl ?_
        subst hQ
        refine g_iret (v := nI acc) hC () hr ?_ rfl dX6_deedsOf_44
        have ei : i = nd := by omega
        rw [ei] at hacc; rw [hacc]; rfl
      have hw3 := (hd5 i (by omega)).1
      refine g_iload_n hC 2 dX6_deedsOf_12 rfl rfl ?_
      refine g_aload_n hC 0 dX6_deedsOf_13 rfl rfl ?_
      refine g_get (C := RX6) (T := TX6) (N := 38) (ci := 6) (v := .ref (rm 1)) hC hcw6 0 rfl rfl 6 (by decide) w2 (fun _ h => h) rfl dX6_deedsOf_14 ?_
      refine g_aload_n hC 0 dX6_deedsOf_17 rfl rfl ?_
      refine g_get (C := RX6) (T := TX6) (N := 38) (ci := 6) (v := .ref (rm 4)) hC hcw6 0 rfl rfl 10 (by decide) w3 (fun _ h => h) rfl dX6_deedsOf_18 ?_
      refine g_iload_n hC 3 dX6_deedsOf_21 rfl rfl ?_
      refine g_iald hC 2 rfl i rfl (by omega) (by decide) dX6_deedsOf_22 ?_
      refine g_iald hC 1 rfl (P 3 i) rfl (by omega) (by decide) dX6_deedsOf_23 ?_
      refine g_iload_n hC 1 dX6_deedsOf_24 rfl rfl ?_
      refine g_icmp_ne hC 34 dX6_deedsOf_25 (by decide) (fun h25t => ?_) (fun h25f => ?_)
      · refine g_iconst (v := nI 0) hC dX6_deedsOf_34 rfl ?_
        refine g_ior_n (a := acc) (b := 0) hC dX6_deedsOf_35 ?_
        refine g_istore_n (lv' := [(0, .ref mo), (1, .int a), (2, .int (nI (acc ||| 0))), (3, .int (nI i))]) hC [1, 2, 0, 3] dX6_deedsOf_36 rfl (by decide) rfl ?_
        refine g_iinc (v := nI (i + 1)) (lv' := [(0, .ref mo), (1, .int a), (2, .int (nI (acc ||| 0))), (3, .int (nI (i + 1)))]) hC 3 [1, 2, 3, 0] dX6_deedsOf_37 rfl (nI_add _ 1) (by decide) rfl ?_
        refine g_goto hC 4 dX6_deedsOf_40 (by decide) ?_
        refine ih4 (i + 1) (acc ||| 0) ?_ ?_ ?_
        · omega
        · rw [hacc]; exact bts_f (decide_eq_false h25t)
        · omega
      refine g_iconst (v := nI 1) hC dX6_deedsOf_28 rfl ?_
      refine g_iload_n hC 3 dX6_deedsOf_29 rfl rfl ?_
      refine g_shl1_n (b := i) hC (by omega) dX6_deedsOf_30 ?_
      refine g_goto hC 35 dX6_deedsOf_31 (by decide) ?_
      refine g_ior_n (a := acc) (b := (2 ^ i)) hC dX6_deedsOf_35 ?_
      refine g_istore_n (lv' := [(0, .ref mo), (1, .int a), (2, .int (nI (acc ||| (2 ^ i)))), (3, .int (nI i))]) hC [1, 2, 0, 3] dX6_deedsOf_36 rfl (by decide) rfl ?_
      refine g_iinc (v := nI (i + 1)) (lv' := [(0, .ref mo), (1, .int a), (2, .int (nI (acc ||| (2 ^ i)))), (3, .int (nI (i + 1)))]) hC 3 [1, 2, 3, 0] dX6_deedsOf_37 rfl (nI_add _ 1) (by decide) rfl ?_
      refine g_goto hC 4 dX6_deedsOf_40 (by decide) ?_
      refine ih4 (i + 1) (acc ||| (2 ^ i)) ?_ ?_ ?_
      · omega
      · rw [hacc]; exact bts_t (decide_eq_true h25f)
      · omega
  refine L4 _ 0 0 ?_ ?_ (Nat.lt_succ_self _)
  · omega
  · rfl
