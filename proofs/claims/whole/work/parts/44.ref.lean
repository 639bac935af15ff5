abbrev rm_X6_sales : Room := { frames := 2, cells := 0, slots := 0, locals := 47 }
set_option maxRecDepth 100000 in
set_option maxHeartbeats 16000000 in
theorem c_X6_sales (l : Launch) (D : va_G) (cI cZ : ClassId) (mo : Nat) (rm : Nat → Nat) (tl : Nat) (pl : Int32) (np : Nat) (nq : Nat) (nd : Nat) (rt : Int32) (rp : Int32) (rq : Int32) (rd : Int32) (cnt : Nat) (na : Nat) (sd : Int64) (rw : Int32) (rx : Int32) (tm : Int32) (tf : Int32) (sm : Int32) (sf : Int32) (P : Nat → Nat → Nat) (c : Nat → Int32) (g : Nat → Int32) (t : Nat) (a : Int32) (b : Int32) (ub : Nat) (hW : WFP np nq nd P) (hFr : Fr P nd c t) (ht : t ≤ 200) (hub : ub < 2) : CtI l yX6_sales wsX6_sales rm_X6_sales D cI cZ [.ref mo, .int a, .int b, .int (nI ub)] [(mo, o6 rm (nI tl) pl (nI np) (nI nq) (nI nd) rt rp rq rd (nI cnt) (nI na) sd rw rx tm tf sm sf), (rm 1, .inl (cI, 5, .inl (fun k_ => nI (P 0 k_)))), (rm 2, .inl (cI, 5, .inl (fun k_ => nI (P 1 k_)))), (rm 3, .inl (cI, 5, .inl (fun k_ => nI (P 2 k_)))), (rm 4, .inl (cI, 5, .inl (fun k_ => nI (P 3 k_)))), (rm 5, .inl (cI, 5, .inl (fun k_ => nI (P 4 k_)))), (rm 6, .inl (cI, 5, .inl (fun k_ => nI (P 5 k_)))), (rm 10, .inl (cI, 20, .inl (mp c))), (rm 11, .inl (cI, 20, .inl (mp g)))] (fun (r : Int32) (g2 : (Nat → Int32)) => r = salesR nq nd P c a b ub) (fun (g2 : (Nat → Int32)) => [(mo, o6 rm (nI tl) pl (nI np) (nI nq) (nI nd) rt rp rq rd (nI cnt) (nI na) sd rw rx tm tf sm sf), (rm 1, .inl (cI, 5, .inl (fun k_ => nI (P 0 k_)))), (rm 2, .inl (cI, 5, .inl (fun k_ => nI (P 1 k_)))), (rm 3, .inl (cI, 5, .inl (fun k_ => nI (P 2 k_)))), (rm 4, .inl (cI, 5, .inl (fun k_ => nI (P 3 k_)))), (rm 5, .inl (cI, 5, .inl (fun k_ => nI (P 4 k_)))), (rm 6, .inl (cI, 5, .inl (fun k_ => nI (P 5 k_)))), (rm 10, .inl (cI, 20, .inl (mp c))), (rm 11, .inl (cI, 20, .inl (mp g2)))]) 0 0 := by
  refine g_startI (ret := (some .int)) (own := RX6) (lv0 := [(0, .ref mo), (1, .int a), (2, .int b), (3, .int (nI ub))]) (by decide) rfl rfl (Nat.le_of_ble_eq_true rfl) rfl ?_
  intro p e s m args below meth cd A Q hin hr hQ hC
  have hcw6 : ∀ w ∈ wsX60, w ∈ wsX6_sales := fun _ h => List.mem_cons_of_mem _ (List.mem_append_right _ h)
  have w1 := hC.1.2.2.2.2 (.fieldLink "PluckBrokerModel" 68 "PluckBrokerModel" "thrown" "I") (List.mem_of_getElem? (i := 1) rfl)
  have w2 := hC.1.2.2.2.2 (.constantLong "PluckBrokerModel" 259 5) (List.mem_of_getElem? (i := 2) rfl)
  have w3 := hC.1.2.2.2.2 (.constantLong "PluckBrokerModel" 261 10) (List.mem_of_getElem? (i := 3) rfl)
  have w4 := hC.1.2.2.2.2 (.fieldLink "PluckBrokerModel" 40 "PluckBrokerModel" "page" "[I") (List.mem_of_getElem? (i := 4) rfl)
  have w5 := hC.1.2.2.2.2 (.fieldLink "PluckBrokerModel" 79 "PluckBrokerModel" "qualities" "I") (List.mem_of_getElem? (i := 5) rfl)
  have w6 := hC.1.2.2.2.2 (.fieldLink "PluckBrokerModel" 43 "PluckBrokerModel" "trial" "[I") (List.mem_of_getElem? (i := 6) rfl)
  obtain ⟨⟨hnp, hnq, hnd⟩, hq4, hd5⟩ := id hW
  obtain ⟨M, hM⟩ : ∃ M, M = 2 ^ nq := ⟨_, rfl⟩
  have hM32 : M ≤ 32 := by rw [hM]; exact pow2_32 hnq
  refine g_aload_n hC 0 dX6_sales_0 rfl rfl ?_
  refine g_iconst (v := nI 0) hC dX6_sales_1 rfl ?_
  refine g_put (C := RX6) (T := TX6) (N := 38) (ci := 6) (v := .int (nI 0)) hC hcw6 tyX6 tyX6_ok nmX6 0 rfl rfl 0 (by decide) w1 (fun _ h => h) rfl (tyX6_ok 0 (by decide)) rfl rfl (Nat.le_of_ble_eq_true rfl) [(mo, o6 rm (nI tl) pl (nI np) (nI nq) (nI nd) rt rp rq rd (nI cnt) (nI na) sd rw rx tm tf sm sf), (rm 1, .inl (cI, 5, .inl (fun k_ => nI (P 0 k_)))), (rm 2, .inl (cI, 5, .inl (fun k_ => nI (P 1 k_)))), (rm 3, .inl (cI, 5, .inl (fun k_ => nI (P 2 k_)))), (rm 4, .inl (cI, 5, .inl (fun k_ => nI (P 3 k_)))), (rm 5, .inl (cI, 5, .inl (fun k_ => nI (P 4 k_)))), (rm 6, .inl (cI, 5, .inl (fun k_ => nI (P 5 k_)))), (rm 10, .inl (cI, 20, .inl (mp c))), (rm 11, .inl (cI, 20, .inl (mp g)))] rfl dX6_sales_2 ?_
  refine g_iload_n hC 1 dX6_sales_5 rfl rfl ?_
  refine g_i2l hC dX6_sales_6 rfl ?_
  refine g_lconst (v := (nI 0).toInt64) hC dX6_sales_7 (by decide +kernel) ?_
  refine g_ldc2 (v := 5) hC w2 dX6_sales_8 ?_
  refine g_topl (y := (nI 5).toInt64) (by decide +kernel) ?_
  refine g_callSip (As := [.long a.toInt64, .long ((nI 0).toInt64), .long ((nI 5).toInt64)]) (rest := []) hC (bI ((nI 0) ≤ a ∧ a ≤ (nI 5))) (c_X6_in l D cI cZ a (nI 0) (nI 5)) (va_cwS 3 hC.1.2.2.2.2 gX6_sales_X6_in rfl rfl rfl dS_X6_in ⟨Nat.le_of_ble_eq_true rfl, Nat.le_of_ble_eq_true rfl⟩) rfl rfl (Nat.le_of_ble_eq_true rfl) dX6_sales_11 ⟨Nat.le_of_ble_eq_true rfl, Nat.le_of_ble_eq_true rfl⟩ [] rfl rfl ?_
  refine g_if_eq_b hC 29 dX6_sales_14 (by decide) (fun h14t => ?_) (fun h14f => ?_)
  · refine g_bipush (v := (-2)) hC dX6_sales_29 (by decide +kernel) ?_
    subst hQ
    refine g_iret (v := -2) hC (g) hr ?_ rfl dX6_sales_31
    rw [salesR, if_neg (fun q => h14t q.1)]
  refine g_iload_n hC 2 dX6_sales_17 rfl rfl ?_
  refine g_i2l hC dX6_sales_18 rfl ?_
  refine g_lconst (v := (nI 0).toInt64) hC dX6_sales_19 (by decide +kernel) ?_
  refine g_ldc2 (v := 10) hC w3 dX6_sales_20 ?_
  refine g_topl (y := (nI 10).toInt64) (by decide +kernel) ?_
  refine g_callSip (As := [.long b.toInt64, .long ((nI 0).toInt64), .long ((nI 10).toInt64)]) (rest := []) hC (bI ((nI 0) ≤ b ∧ b ≤ (nI 10))) (c_X6_in l D cI cZ b (nI 0) (nI 10)) (va_cwS 3 hC.1.2.2.2.2 gX6_sales_X6_in rfl rfl rfl dS_X6_in ⟨Nat.le_of_ble_eq_true rfl, Nat.le_of_ble_eq_true rfl⟩) rfl rfl (Nat.le_of_ble_eq_true rfl) dX6_sales_23 ⟨Nat.le_of_ble_eq_true rfl, Nat.le_of_ble_eq_true rfl⟩ [] rfl rfl ?_
  refine g_if_ne_b hC 32 dX6_sales_26 (by decide) (fun h26t => ?_) (fun h26f => ?_)
  · have okm : okM a := h14f
    have okx : okX b := h26t
    obtain ⟨mq, hma, rfl⟩ := ok_n (M := 5) (by decide) okm
    obtain ⟨x, hbx, rfl⟩ := ok_n (M := 10) (by decide) okx
    have hKm : K (nI mq) = mq := K_n (by omega)
    have hKx : K (nI x) = x := K_n (by omega)
    refine g_aload_n hC 0 dX6_sales_32 rfl rfl ?_
    refine g_aload_n hC 0 dX6_sales_33 rfl rfl ?_
    refine g_get (C := RX6) (T := TX6) (N := 38) (ci := 6) (v := .ref (rm 10)) hC hcw6 0 rfl rfl 20 (by decide) w4 (fun _ h => h) rfl dX6_sales_34 ?_
    refine g_iconst (v := nI 1) hC dX6_sales_37 rfl ?_
    refine g_callVip (As := [.ref (rm 10), .int (nI 1)]) (rest := []) hC (nI (thatAre nq c (nI 1))) (c_X6_thatAre l D cI cZ mo rm tl pl np nq nd rt rp rq rd cnt na sd rw rx tm tf sm sf (rm 10) c (nI 1) (by omega)) (cwV 2 hC.1.2.2.2.2 gX6_sales_X6_thatAre rfl rfl rfl dV_X6_thatAre ⟨Nat.le_of_ble_eq_true rfl, Nat.le_of_ble_eq_true rfl⟩) rfl rfl rfl rfl (Nat.le_of_ble_eq_true rfl) dX6_sales_38 ⟨Nat.le_of_ble_eq_true rfl, Nat.le_of_ble_eq_true rfl⟩ [0, 7] rfl rfl ?_
    obtain ⟨pw, hpw⟩ : ∃ pw, pw = thatAre nq c (nI 1) := ⟨_, rfl⟩
    have hpw32 : pw < 32 := by rw [hpw]; exact bts_le hnq
    refine g_top (y := nI pw) (by rw [hpw]) ?_
    refine g_istore (lv' := [(0, .ref mo), (1, .int (nI mq)), (2, .int (nI x)), (3, .int (nI ub)), (4, .int (nI pw))]) hC [1, 2, 3, 4, 0] dX6_sales_41 (by decide) rfl ?_
    refine g_iload hC 4 dX6_sales_43 rfl ?_
    refine g_callSip (As := [.int (nI pw)]) (rest := []) hC (nI (pop5 pw)) (c_X6_many l D cI cZ pw hpw32) (va_cwS 1 hC.1.2.2.2.2 gX6_sales_X6_many rfl rfl rfl dS_X6_many ⟨Nat.le_of_ble_eq_true rfl, Nat.le_of_ble_eq_true rfl⟩) rfl rfl (Nat.le_of_ble_eq_true rfl) dX6_sales_45 ⟨Nat.le_of_ble_eq_true rfl, Nat.le_of_ble_eq_true rfl⟩ [] rfl rfl ?_
    refine g_istore (lv' := [(0, .ref mo), (1, .int (nI mq)), (2, .int (nI x)), (3, .int (nI ub)), (4, .int (nI pw)), (5, .int (nI (pop5 pw)))]) hC [1, 2, 3, 4, 5, 0] dX6_sales_48 (by decide) rfl ?_
    refine g_iconst (v := nI 0) hC dX6_sales_50 rfl ?_
    refine g_istore (lv' := [(0, .ref mo), (1, .int (nI mq)), (2, .int (nI x)), (3, .int (nI ub)), (4, .int (nI pw)), (5, .int (nI (pop5 pw))), (6, .int (nI 0))]) hC [1, 2, 3, 4, 5, 6, 0] dX6_sales_51 (by decide) rfl ?_
    refine g_iconst (v := nI 0) hC dX6_sales_53 rfl ?_
    refine g_istore (lv' := [(0, .ref mo), (1, .int (nI mq)), (2, .int (nI x)), (3, .int (nI ub)), (4, .int (nI pw)), (5, .int (nI (pop5 pw))), (6, .int (nI 0)), (7, .int (nI 0))]) hC [1, 2, 3, 4, 5, 6, 7, 0] dX6_sales_54 (by decide) rfl ?_
    have L56 : ∀ (n : Nat) (i : Nat) (en : Nat) (gg : Nat → Int32), (i ≤ M) → (en = slE P nq nd c mq x i) → M - i < n → G p l e rm_X6_sales s m args below meth cd D A 0 0 Q 9 [(mo, o6 rm (nI tl) pl (nI np) (nI nq) (nI nd) rt rp rq rd (nI cnt) (nI na) sd rw rx tm tf sm sf), (rm 1, .inl (cI, 5, .inl (fun k_ => nI (P 0 k_)))), (rm 2, .inl (cI, 5, .inl (fun k_ => nI (P 1 k_)))), (rm 3, .inl (cI, 5, .inl (fun k_ => nI (P 2 k_)))), (rm 4, .inl (cI, 5, .inl (fun k_ => nI (P 3 k_)))), (rm 5, .inl (cI, 5, .inl (fun k_ => nI (P 4 k_)))), (rm 6, .inl (cI, 5, .inl (fun k_ => nI (P 5 k_)))), (rm 10, .inl (cI, 20, .inl (mp c))), (rm 11, .inl (cI, 20, .inl (mp gg)))] 56 [(0, .ref mo), (1, .int (nI mq)), (2, .int (nI x)), (3, .int (nI ub)), (4, .int (nI pw)), (5, .int (nI (pop5 pw))), (6, .int (nI en)), (7, .int (nI i))] [] := by
      intro n
      induction n with
      | zero => intro i en gg hi hen hn; exact absurd hn (Nat.not_lt_zero _)
      | succ n ih56 =>
        intro i en gg hi hen hn
        refine g_iload hC 7 dX6_sales_56 rfl ?_
        refine g_iconst (v := nI 1) hC dX6_sales_58 rfl ?_
        refine g_aload_n hC 0 dX6_sales_59 rfl rfl ?_
        refine g_get (C := RX6) (T := TX6) (N := 38) (ci := 6) (v := .int (nI nq)) hC hcw6 0 rfl rfl 5 (by decide) w5 (fun _ h => h) rfl dX6_sales_60 ?_
        refine g_shl1_n (b := nq) hC (by omega) dX6_sales_63 ?_
        refine g_top (y := nI M) (by rw [hM]) ?_
        refine g_icmp_ge_n (a := i) (b := M) hC (by omega) (by omega) 208 dX6_sales_64 (by decide) (fun h64t => ?_) (fun h64f => ?_)
        · have ei : i = M := by omega
          rw [ei, hM, ← slE_ext 32 (pow2_32 hnq)] at hen
          have h10 := slA_10 pw hpw32 x hbx
          have hp5 := pop5_le5 pw
          have hpl : 10 ^ pop5 pw ≤ 10 ^ 5 := Nat.pow_le_pow_right (by decide) hp5
          have hp0 : 0 < 10 ^ pop5 pw := Nat.pow_pos (by decide)
          have hle := slE_le (P := P) (nq := nq) (nd := nd) (c := c) (m := mq) (x := x) 32
          rw [← hpw] at hle
          refine g_iload hC 6 dX6_sales_208 rfl ?_
          refine g_bipush (v := nI 10) hC dX6_sales_210 (by decide +kernel) ?_
          refine g_iload hC 5 dX6_sales_212 rfl ?_
          refine g_callSip (As := [.int (nI 10), .int (nI (pop5 pw))]) (rest := [.int (nI en)]) hC (nI (10 ^ (pop5 pw))) (c_X6_power l D cI cZ 10 (pop5 pw) (pop5_le5 _)) (va_cwS 2 hC.1.2.2.2.2 gX6_sales_X6_power rfl rfl rfl dS_X6_power ⟨Nat.le_of_ble_eq_true rfl, Nat.le_of_ble_eq_true rfl⟩) rfl rfl (Nat.le_of_ble_eq_true rfl) dX6_sales_214 ⟨Nat.le_of_ble_eq_true rfl, Nat.le_of_ble_eq_true rfl⟩ [] rfl rfl ?_
          refine g_iload_n hC 3 dX6_sales_217 rfl rfl ?_
          refine g_callSip (As := [.int (nI en), .int (nI (10 ^ (pop5 pw))), .int (nI ub)]) (rest := []) hC (nI (fracR en (10 ^ (pop5 pw)) ub)) (c_X6_fraction l D cI cZ en (10 ^ (pop5 pw)) ub (by omega) (by omega) (by omega) (by first | assumption | omega)) (va_cwS 3 hC.1.2.2.2.2 gX6_sales_X6_fraction rfl rfl rfl dS_X6_fraction ⟨Nat.le_of_ble_eq_true rfl, Nat.le_of_ble_eq_true rfl⟩) rfl rfl (Nat.le_of_ble_eq_true rfl) dX6_sales_218 ⟨Nat.le_of_ble_eq_true rfl, Nat.le_of_ble_eq_true rfl⟩ [] rfl rfl ?_
          subst hQ
          refine g_iret (v := nI (fracR en (10 ^ (pop5 pw)) ub)) hC (gg) hr ?_ rfl dX6_sales_221
          rw [salesR, if_pos ⟨okm, okx⟩, hKm, hKx, ← hpw, ← hen, h10]
        refine g_iload hC 7 dX6_sales_67 rfl ?_
        refine g_iload hC 4 dX6_sales_69 rfl ?_
        refine g_iconst (v := (-1)) hC dX6_sales_71 rfl ?_
        refine g_ixor hC dX6_sales_72 ?_
        refine g_iand hC dX6_sales_73 ?_
        refine g_if_ne hC 202 dX6_sales_74 (by decide) (fun h74t => ?_) (fun h74f => ?_)
        · have hns : ¬ subB i pw := fun q => h74t ((subB_i i (by omega) pw hpw32).mpr q)
          refine g_iinc (v := nI (i + 1)) (lv' := [(0, .ref mo), (1, .int (nI mq)), (2, .int (nI x)), (3, .int (nI ub)), (4, .int (nI pw)), (5, .int (nI (pop5 pw))), (6, .int (nI en)), (7, .int (nI (i + 1)))]) hC 7 [1, 2, 3, 4, 5, 6, 7, 0] dX6_sales_202 rfl (nI_add _ 1) (by decide) rfl ?_
          refine g_goto hC 56 dX6_sales_205 (by decide) ?_
          refine ih56 (i + 1) en gg ?_ ?_ ?_
          · omega
          · show _ = slE P nq nd c mq x i + (if subB i (thatAre nq c (nI 1)) then (if mq ≤ pop5 (deedsThat nd (passN P nq nd (settleF i c nq) 20) (nI 1)) then wtF i (thatAre nq c (nI 1)) x 5 else 0) else 0)
            rw [← hen, ← hpw]
            rw [if_neg hns]; rfl
          · omega
        have hsub : subB i pw := (subB_i i (by omega) pw hpw32).mp h74f
        have hwt := wt_pow pw hpw32 i (by omega) hsub x hbx
        refine g_aload_n hC 0 dX6_sales_77 rfl rfl ?_
        refine g_callVv (As := []) (rest := []) hC (c_X6_begin l D cI cZ mo rm tl pl np nq nd rt rp rq rd cnt na sd rw rx tm tf sm sf c gg) (cwV 0 hC.1.2.2.2.2 gX6_sales_X6_begin rfl rfl rfl dV_X6_begin ⟨Nat.le_of_ble_eq_true rfl, Nat.le_of_ble_eq_true rfl⟩) rfl rfl rfl rfl (Nat.le_of_ble_eq_true rfl) dX6_sales_78 ⟨Nat.le_of_ble_eq_true rfl, Nat.le_of_ble_eq_true rfl⟩ [0, 7, 8] [1, 2, 3, 4, 5, 6] [6, 0, 1, 2, 3, 4, 5, 7, 8] (fun (_ : Unit) => [(mo, o6 rm (nI tl) pl (nI np) (nI nq) (nI nd) rt rp rq rd (nI cnt) (nI na) sd rw rx tm tf sm sf), (rm 1, .inl (cI, 5, .inl (fun k_ => nI (P 0 k_)))), (rm 2, .inl (cI, 5, .inl (fun k_ => nI (P 1 k_)))), (rm 3, .inl (cI, 5, .inl (fun k_ => nI (P 2 k_)))), (rm 4, .inl (cI, 5, .inl (fun k_ => nI (P 3 k_)))), (rm 5, .inl (cI, 5, .inl (fun k_ => nI (P 4 k_)))), (rm 6, .inl (cI, 5, .inl (fun k_ => nI (P 5 k_)))), (rm 10, .inl (cI, 20, .inl (mp c))), (rm 11, .inl (cI, 20, .inl (mp c)))]) rfl rfl rfl (fun _ => rfl) (fun z78 hp78 => ?_)
        refine g_is (ws2 := [(mo, o6 rm (nI tl) pl (nI np) (nI nq) (nI nd) rt rp rq rd (nI cnt) (nI na) sd rw rx tm tf sm sf), (rm 1, .inl (cI, 5, .inl (fun k_ => nI (P 0 k_)))), (rm 2, .inl (cI, 5, .inl (fun k_ => nI (P 1 k_)))), (rm 3, .inl (cI, 5, .inl (fun k_ => nI (P 2 k_)))), (rm 4, .inl (cI, 5, .inl (fun k_ => nI (P 3 k_)))), (rm 5, .inl (cI, 5, .inl (fun k_ => nI (P 4 k_)))), (rm 6, .inl (cI, 5, .inl (fun k_ => nI (P 5 k_)))), (rm 10, .inl (cI, 20, .inl (mp c))), (rm 11, .inl (cI, 20, .inl (mp c)))]) (lv2 := [(0, .ref mo), (1, .int (nI mq)), (2, .int (nI x)), (3, .int (nI ub)), (4, .int (nI pw)), (5, .int (nI (pop5 pw))), (6, .int (nI en)), (7, .int (nI i))]) (st2 := []) rfl rfl rfl ?_
        refine g_iconst (v := nI 0) hC dX6_sales_81 rfl ?_
        refine g_istore (lv' := [(0, .ref mo), (1, .int (nI mq)), (2, .int (nI x)), (3, .int (nI ub)), (4, .int (nI pw)), (5, .int (nI (pop5 pw))), (6, .int (nI en)), (7, .int (nI i)), (8, .int (nI 0))]) hC [1, 2, 3, 4, 5, 6, 7, 8, 0] dX6_sales_82 (by decide) rfl ?_
        have L84 : ∀ (n : Nat) (o : Nat) (h : Nat → Int32), (o ≤ nq) → (h = setlF pw i c o) → nq - o < n → G p l e rm_X6_sales s m args below meth cd D A 0 0 Q 9 [(mo, o6 rm (nI tl) pl (nI np) (nI nq) (nI nd) rt rp rq rd (nI cnt) (nI na) sd rw rx tm tf sm sf), (rm 1, .inl (cI, 5, .inl (fun k_ => nI (P 0 k_)))), (rm 2, .inl (cI, 5, .inl (fun k_ => nI (P 1 k_)))), (rm 3, .inl (cI, 5, .inl (fun k_ => nI (P 2 k_)))), (rm 4, .inl (cI, 5, .inl (fun k_ => nI (P 3 k_)))), (rm 5, .inl (cI, 5, .inl (fun k_ => nI (P 4 k_)))), (rm 6, .inl (cI, 5, .inl (fun k_ => nI (P 5 k_)))), (rm 10, .inl (cI, 20, .inl (mp c))), (rm 11, .inl (cI, 20, .inl (mp h)))] 84 [(0, .ref mo), (1, .int (nI mq)), (2, .int (nI x)), (3, .int (nI ub)), (4, .int (nI pw)), (5, .int (nI (pop5 pw))), (6, .int (nI en)), (7, .int (nI i)), (8, .int (nI o))] [] := by
          intro n
          induction n with
          | zero => intro o h ho hh hn; exact absurd hn (Nat.not_lt_zero _)
          | succ n ih84 =>
            intro o h ho hh hn
            refine g_iload hC 8 dX6_sales_84 rfl ?_
            refine g_aload_n hC 0 dX6_sales_86 rfl rfl ?_
            refine g_get (C := RX6) (T := TX6) (N := 38) (ci := 6) (v := .int (nI nq)) hC hcw6 0 rfl rfl 5 (by decide) w5 (fun _ h => h) rfl dX6_sales_87 ?_
            refine g_icmp_ge_n (a := o) (b := nq) hC (by omega) (by omega) 145 dX6_sales_90 (by decide) (fun h90t => ?_) (fun h90f => ?_)
            · have eo : o = nq := by omega
              rw [eo, hpw, setl_eq hnq (by omega) (by rw [← hpw]; exact hsub) nq (Nat.le_refl _)] at hh
              have ecell : (mp h) = (mp (settleF i c nq)) := by rw [hh]
              refine g_ws (ws2 := [(mo, o6 rm (nI tl) pl (nI np) (nI nq) (nI nd) rt rp rq rd (nI cnt) (nI na) sd rw rx tm tf sm sf), (rm 1, .inl (cI, 5, .inl (fun k_ => nI (P 0 k_)))), (rm 2, .inl (cI, 5, .inl (fun k_ => nI (P 1 k_)))), (rm 3, .inl (cI, 5, .inl (fun k_ => nI (P 2 k_)))), (rm 4, .inl (cI, 5, .inl (fun k_ => nI (P 3 k_)))), (rm 5, .inl (cI, 5, .inl (fun k_ => nI (P 4 k_)))), (rm 6, .inl (cI, 5, .inl (fun k_ => nI (P 5 k_)))), (rm 10, .inl (cI, 20, .inl (mp c))), (rm 11, .inl (cI, 20, .inl (mp (settleF i c nq))))]) (congrArg (fun zz : Nat → Int32 => ([(mo, o6 rm (nI tl) pl (nI np) (nI nq) (nI nd) rt rp rq rd (nI cnt) (nI na) sd rw rx tm tf sm sf), (rm 1, .inl (cI, 5, .inl (fun k_ => nI (P 0 k_)))), (rm 2, .inl (cI, 5, .inl (fun k_ => nI (P 1 k_)))), (rm 3, .inl (cI, 5, .inl (fun k_ => nI (P 2 k_)))), (rm 4, .inl (cI, 5, .inl (fun k_ => nI (P 3 k_)))), (rm 5, .inl (cI, 5, .inl (fun k_ => nI (P 4 k_)))), (rm 6, .inl (cI, 5, .inl (fun k_ => nI (P 5 k_)))), (rm 10, .inl (cI, 20, .inl (mp c))), (rm 11, .inl (cI, 20, .inl zz))] : va_W)) ecell) ?_
              refine g_aload_n hC 0 dX6_sales_145 rfl rfl ?_
              refine g_bipush (v := nI 20) hC dX6_sales_146 (by decide +kernel) ?_
              refine g_callVv (As := [.int (nI 20)]) (rest := []) hC (c_X6_goDays l D cI cZ mo rm tl pl np nq nd rt rp rq rd cnt na sd rw rx tm tf sm sf P (settleF i c nq) t 20 (by first | assumption | omega) (Fr_settle hFr nq (by omega)) (by first | assumption | omega) (by first | assumption | omega)) (cwV 1 hC.1.2.2.2.2 gX6_sales_X6_goDays rfl rfl rfl dV_X6_goDays ⟨Nat.le_of_ble_eq_true rfl, Nat.le_of_ble_eq_true rfl⟩) rfl rfl rfl rfl (Nat.le_of_ble_eq_true rfl) dX6_sales_148 ⟨Nat.le_of_ble_eq_true rfl, Nat.le_of_ble_eq_true rfl⟩ [0, 1, 3, 4, 5, 6, 8] [2, 7] [2, 3, 0, 4, 5, 6, 7, 1, 8] (fun (_ : Unit) => [(mo, o6 rm (nI tl) pl (nI np) (nI nq) (nI nd) rt rp rq rd (nI cnt) (nI na) sd rw rx tm tf sm sf), (rm 1, .inl (cI, 5, .inl (fun k_ => nI (P 0 k_)))), (rm 2, .inl (cI, 5, .inl (fun k_ => nI (P 1 k_)))), (rm 3, .inl (cI, 5, .inl (fun k_ => nI (P 2 k_)))), (rm 4, .inl (cI, 5, .inl (fun k_ => nI (P 3 k_)))), (rm 5, .inl (cI, 5, .inl (fun k_ => nI (P 4 k_)))), (rm 6, .inl (cI, 5, .inl (fun k_ => nI (P 5 k_)))), (rm 10, .inl (cI, 20, .inl (mp c))), (rm 11, .inl (cI, 20, .inl (mp (passN P nq nd (settleF i c nq) 20))))]) rfl rfl rfl (fun _ => rfl) (fun z148 hp148 => ?_)
              refine g_is (ws2 := [(mo, o6 rm (nI tl) pl (nI np) (nI nq) (nI nd) rt rp rq rd (nI cnt) (nI na) sd rw rx tm tf sm sf), (rm 1, .inl (cI, 5, .inl (fun k_ => nI (P 0 k_)))), (rm 2, .inl (cI, 5, .inl (fun k_ => nI (P 1 k_)))), (rm 3, .inl (cI, 5, .inl (fun k_ => nI (P 2 k_)))), (rm 4, .inl (cI, 5, .inl (fun k_ => nI (P 3 k_)))), (rm 5, .inl (cI, 5, .inl (fun k_ => nI (P 4 k_)))), (rm 6, .inl (cI, 5, .inl (fun k_ => nI (P 5 k_)))), (rm 10, .inl (cI, 20, .inl (mp c))), (rm 11, .inl (cI, 20, .inl (mp (passN P nq nd (settleF i c nq) 20))))]) (lv2 := [(0, .ref mo), (1, .int (nI mq)), (2, .int (nI x)), (3, .int (nI ub)), (4, .int (nI pw)), (5, .int (nI (pop5 pw))), (6, .int (nI en)), (7, .int (nI i)), (8, .int (nI o))]) (st2 := []) rfl rfl rfl ?_
              refine g_iload hC 7 dX6_sales_151 rfl ?_
              refine g_callSip (As := [.int (nI i)]) (rest := []) hC (nI (pop5 i)) (c_X6_many l D cI cZ i (by omega)) (va_cwS 1 hC.1.2.2.2.2 gX6_sales_X6_many rfl rfl rfl dS_X6_many ⟨Nat.le_of_ble_eq_true rfl, Nat.le_of_ble_eq_true rfl⟩) rfl rfl (Nat.le_of_ble_eq_true rfl) dX6_sales_153 ⟨Nat.le_of_ble_eq_true rfl, Nat.le_of_ble_eq_true rfl⟩ [] rfl rfl ?_
              refine g_istore (lv' := [(0, .ref mo), (1, .int (nI mq)), (2, .int (nI x)), (3, .int (nI ub)), (4, .int (nI pw)), (5, .int (nI (pop5 pw))), (6, .int (nI en)), (7, .int (nI i)), (8, .int (nI (pop5 i)))]) hC [1, 2, 3, 4, 5, 6, 7, 8, 0] dX6_sales_156 (by decide) rfl ?_
              refine g_iload hC 6 dX6_sales_158 rfl ?_
              refine g_aload_n hC 0 dX6_sales_160 rfl rfl ?_
              refine g_aload_n hC 0 dX6_sales_161 rfl rfl ?_
              refine g_get (C := RX6) (T := TX6) (N := 38) (ci := 6) (v := .ref (rm 11)) hC hcw6 0 rfl rfl 21 (by decide) w6 (fun _ h => h) rfl dX6_sales_162 ?_
              refine g_iconst (v := nI 1) hC dX6_sales_165 rfl ?_
              refine g_callVip (As := [.ref (rm 11), .int (nI 1)]) (rest := [.int (nI en)]) hC (nI (deedsThat nd (passN P nq nd (settleF i c nq) 20) (nI 1))) (c_X6_deedsThat l D cI cZ mo rm tl pl np nq nd rt rp rq rd cnt na sd rw rx tm tf sm sf (rm 11) (passN P nq nd (settleF i c nq) 20) (nI 1) (by omega)) (cwV 2 hC.1.2.2.2.2 gX6_sales_X6_deedsThat rfl rfl rfl dV_X6_deedsThat ⟨Nat.le_of_ble_eq_true rfl, Nat.le_of_ble_eq_true rfl⟩) rfl rfl rfl rfl (Nat.le_of_ble_eq_true rfl) dX6_sales_166 ⟨Nat.le_of_ble_eq_true rfl, Nat.le_of_ble_eq_true rfl⟩ [0, 8] rfl rfl ?_
              refine g_callSip (As := [.int (nI (deedsThat nd (passN P nq nd (settleF i c nq) 20) (nI 1)))]) (rest := [.int (nI en)]) hC (nI (pop5 (deedsThat nd (passN P nq nd (settleF i c nq) 20) (nI 1)))) (c_X6_many l D cI cZ (deedsThat nd (passN P nq nd (settleF i c nq) 20) (nI 1)) (bts_le hnd)) (va_cwS 1 hC.1.2.2.2.2 gX6_sales_X6_many rfl rfl rfl dS_X6_many ⟨Nat.le_of_ble_eq_true rfl, Nat.le_of_ble_eq_true rfl⟩) rfl rfl (Nat.le_of_ble_eq_true rfl) dX6_sales_169 ⟨Nat.le_of_ble_eq_true rfl, Nat.le_of_ble_eq_true rfl⟩ [] rfl rfl ?_
              refine g_iload_n hC 1 dX6_sales_172 rfl rfl ?_
              refine g_icmp_lt_n (a := (pop5 (deedsThat nd (passN P nq nd (settleF i c nq) 20) (nI 1)))) (b := mq) hC (by have := pop5_le5 (deedsThat nd (passN P nq nd (settleF i c nq) 20) (nI 1)); omega) (by have := pop5_le5 (deedsThat nd (passN P nq nd (settleF i c nq) 20) (nI 1)); omega) 198 dX6_sales_173 (by decide) (fun h173t => ?_) (fun h173f => ?_)
              · refine g_iconst (v := nI 0) hC dX6_sales_198 rfl ?_
                refine g_iadd_n (a := en) (b := 0) hC dX6_sales_199 ?_
                refine g_istore (lv' := [(0, .ref mo), (1, .int (nI mq)), (2, .int (nI x)), (3, .int (nI ub)), (4, .int (nI pw)), (5, .int (nI (pop5 pw))), (6, .int (nI (en + 0))), (7, .int (nI i)), (8, .int (nI (pop5 i)))]) hC [1, 2, 3, 4, 5, 6, 0, 7, 8] dX6_sales_200 (by decide) rfl ?_
                refine g_iinc (v := nI (i + 1)) (lv' := [(0, .ref mo), (1, .int (nI mq)), (2, .int (nI x)), (3, .int (nI ub)), (4, .int (nI pw)), (5, .int (nI (pop5 pw))), (6, .int (nI (en + 0))), (7, .int (nI (i + 1))), (8, .int (nI (pop5 i)))]) hC 7 [1, 2, 3, 4, 5, 6, 7, 0, 8] dX6_sales_202 rfl (nI_add _ 1) (by decide) rfl ?_
                refine g_goto hC 56 dX6_sales_205 (by decide) ?_
                refine g_lv [0, 1, 2, 3, 4, 5, 6, 7] (lv2 := [(0, .ref mo), (1, .int (nI mq)), (2, .int (nI x)), (3, .int (nI ub)), (4, .int (nI pw)), (5, .int (nI (pop5 pw))), (6, .int (nI (en + 0))), (7, .int (nI (i + 1)))]) rfl ?_
                refine ih56 (i + 1) (en + 0) (passN P nq nd (settleF i c nq) 20) ?_ ?_ ?_
                · omega
                · show _ = slE P nq nd c mq x i + (if subB i (thatAre nq c (nI 1)) then (if mq ≤ pop5 (deedsThat nd (passN P nq nd (settleF i c nq) 20) (nI 1)) then wtF i (thatAre nq c (nI 1)) x 5 else 0) else 0)
                  rw [← hen, ← hpw]
                  rw [if_pos hsub, if_neg (by omega)]
                · omega
              refine g_iload_n hC 2 dX6_sales_176 rfl rfl ?_
              refine g_iload hC 8 dX6_sales_177 rfl ?_
              refine g_callSip (As := [.int (nI x), .int (nI (pop5 i))]) (rest := [.int (nI en)]) hC (nI (x ^ (pop5 i))) (c_X6_power l D cI cZ x (pop5 i) (pop5_le5 _)) (va_cwS 2 hC.1.2.2.2.2 gX6_sales_X6_power rfl rfl rfl dS_X6_power ⟨Nat.le_of_ble_eq_true rfl, Nat.le_of_ble_eq_true rfl⟩) rfl rfl (Nat.le_of_ble_eq_true rfl) dX6_sales_179 ⟨Nat.le_of_ble_eq_true rfl, Nat.le_of_ble_eq_true rfl⟩ [] rfl rfl ?_
              refine g_bipush (v := nI 10) hC dX6_sales_182 (by decide +kernel) ?_
              refine g_iload_n hC 2 dX6_sales_184 rfl rfl ?_
              refine g_isub_n (a := 10) (b := x) hC (by omega) dX6_sales_185 ?_
              refine g_iload hC 5 dX6_sales_186 rfl ?_
              refine g_iload hC 8 dX6_sales_188 rfl ?_
              refine g_isub_n (a := (pop5 pw)) (b := (pop5 i)) hC (by exact hwt.2) dX6_sales_190 ?_
              refine g_callSip (As := [.int (nI (10 - x)), .int (nI (pop5 pw - (pop5 i)))]) (rest := [.int (nI (x ^ (pop5 i))), .int (nI en)]) hC (nI ((10 - x) ^ (pop5 pw - (pop5 i)))) (c_X6_power l D cI cZ (10 - x) (pop5 pw - (pop5 i)) (by have := pop5_le5 pw; omega)) (va_cwS 2 hC.1.2.2.2.2 gX6_sales_X6_power rfl rfl rfl dS_X6_power ⟨Nat.le_of_ble_eq_true rfl, Nat.le_of_ble_eq_true rfl⟩) rfl rfl (Nat.le_of_ble_eq_true rfl) dX6_sales_191 ⟨Nat.le_of_ble_eq_true rfl, Nat.le_of_ble_eq_true rfl⟩ [] rfl rfl ?_
              refine g_imul_n (a := (x ^ (pop5 i))) (b := ((10 - x) ^ (pop5 pw - (pop5 i)))) hC dX6_sales_194 ?_
              refine g_goto hC 199 dX6_sales_195 (by decide) ?_
              refine g_iadd_n (a := en) (b := ((x ^ (pop5 i)) * ((10 - x) ^ (pop5 pw - (pop5 i))))) hC dX6_sales_199 ?_
              refine g_istore (lv' := [(0, .ref mo), (1, .int (nI mq)), (2, .int (nI x)), (3, .int (nI ub)), (4, .int (nI pw)), (5, .int (nI (pop5 pw))), (6, .int (nI (en + ((x ^ (pop5 i)) * ((10 - x) ^ (pop5 pw - (pop5 i))))))), (7, .int (nI i)), (8, .int (nI (pop5 i)))]) hC [1, 2, 3, 4, 5, 6, 0, 7, 8] dX6_sales_200 (by decide) rfl ?_
              refine g_iinc (v := nI (i + 1)) (lv' := [(0, .ref mo), (1, .int (nI mq)), (2, .int (nI x)), (3, .int (nI ub)), (4, .int (nI pw)), (5, .int (nI (pop5 pw))), (6, .int (nI (en + ((x ^ (pop5 i)) * ((10 - x) ^ (pop5 pw - (pop5 i))))))), (7, .int (nI (i + 1))), (8, .int (nI (pop5 i)))]) hC 7 [1, 2, 3, 4, 5, 6, 7, 0, 8] dX6_sales_202 rfl (nI_add _ 1) (by decide) rfl ?_
              refine g_goto hC 56 dX6_sales_205 (by decide) ?_
              refine g_lv [0, 1, 2, 3, 4, 5, 6, 7] (lv2 := [(0, .ref mo), (1, .int (nI mq)), (2, .int (nI x)), (3, .int (nI ub)), (4, .int (nI pw)), (5, .int (nI (pop5 pw))), (6, .int (nI (en + ((x ^ (pop5 i)) * ((10 - x) ^ (pop5 pw - (pop5 i))))))), (7, .int (nI (i + 1)))]) rfl ?_
              refine ih56 (i + 1) (en + ((x ^ (pop5 i)) * ((10 - x) ^ (pop5 pw - (pop5 i))))) (passN P nq nd (settleF i c nq) 20) ?_ ?_ ?_
              · omega
              · show _ = slE P nq nd c mq x i + (if subB i (thatAre nq c (nI 1)) then (if mq ≤ pop5 (deedsThat nd (passN P nq nd (settleF i c nq) 20) (nI 1)) then wtF i (thatAre nq c (nI 1)) x 5 else 0) else 0)
                rw [← hen, ← hpw]
                rw [if_pos hsub, if_pos (by omega), hwt.1]
              · omega
            refine g_aload_n hC 0 dX6_sales_93 rfl rfl ?_
            refine g_get (C := RX6) (T := TX6) (N := 38) (ci := 6) (v := .ref (rm 11)) hC hcw6 0 rfl rfl 21 (by decide) w6 (fun _ h => h) rfl dX6_sales_94 ?_
            refine g_iconst (v := nI 4) hC dX6_sales_97 rfl ?_
            refine g_iload hC 8 dX6_sales_98 rfl ?_
            refine g_iadd_n (a := 4) (b := o) hC dX6_sales_100 ?_
            refine g_iload hC 7 dX6_sales_101 rfl ?_
            refine g_iload hC 8 dX6_sales_103 rfl ?_
            refine g_callSip (As := [.int (nI i), .int (nI o)]) (rest := [.int (nI (4 + o)), .ref (rm 11)]) hC (bI (hasB i o)) (c_X6_has l D cI cZ i o (by omega) (by omega)) (va_cwS 2 hC.1.2.2.2.2 gX6_sales_X6_has rfl rfl rfl dS_X6_has ⟨Nat.le_of_ble_eq_true rfl, Nat.le_of_ble_eq_true rfl⟩) rfl rfl (Nat.le_of_ble_eq_true rfl) dX6_sales_105 ⟨Nat.le_of_ble_eq_true rfl, Nat.le_of_ble_eq_true rfl⟩ [] rfl rfl ?_
            refine g_if_eq_b hC 115 dX6_sales_108 (by decide) (fun h108t => ?_) (fun h108f => ?_)
            · refine g_iload hC 4 dX6_sales_115 rfl ?_
              refine g_iload hC 8 dX6_sales_117 rfl ?_
              refine g_callSip (As := [.int (nI pw), .int (nI o)]) (rest := [.int (nI (4 + o)), .ref (rm 11)]) hC (bI (hasB pw o)) (c_X6_has l D cI cZ pw o hpw32 (by omega)) (va_cwS 2 hC.1.2.2.2.2 gX6_sales_X6_has rfl rfl rfl dS_X6_has ⟨Nat.le_of_ble_eq_true rfl, Nat.le_of_ble_eq_true rfl⟩) rfl rfl (Nat.le_of_ble_eq_true rfl) dX6_sales_119 ⟨Nat.le_of_ble_eq_true rfl, Nat.le_of_ble_eq_true rfl⟩ [] rfl rfl ?_
              refine g_if_eq_b hC 129 dX6_sales_122 (by decide) (fun h122t => ?_) (fun h122f => ?_)
              · refine g_aload_n hC 0 dX6_sales_129 rfl rfl ?_
                refine g_get (C := RX6) (T := TX6) (N := 38) (ci := 6) (v := .ref (rm 11)) hC hcw6 0 rfl rfl 21 (by decide) w6 (fun _ h => h) rfl dX6_sales_130 ?_
                refine g_iconst (v := nI 4) hC dX6_sales_133 rfl ?_
                refine g_iload hC 8 dX6_sales_134 rfl ?_
                refine g_iadd_n (a := 4) (b := o) hC dX6_sales_136 ?_
                refine g_iald hC 8 rfl (4 + o) rfl (by omega) (by decide) dX6_sales_137 ?_
                refine g_top (y := h (5 + o)) (mp_4 _ (by omega)) ?_
                refine g_iast hC 8 rfl (4 + o) rfl (by omega) (by decide) [(mo, o6 rm (nI tl) pl (nI np) (nI nq) (nI nd) rt rp rq rd (nI cnt) (nI na) sd rw rx tm tf sm sf), (rm 1, .inl (cI, 5, .inl (fun k_ => nI (P 0 k_)))), (rm 2, .inl (cI, 5, .inl (fun k_ => nI (P 1 k_)))), (rm 3, .inl (cI, 5, .inl (fun k_ => nI (P 2 k_)))), (rm 4, .inl (cI, 5, .inl (fun k_ => nI (P 3 k_)))), (rm 5, .inl (cI, 5, .inl (fun k_ => nI (P 4 k_)))), (rm 6, .inl (cI, 5, .inl (fun k_ => nI (P 5 k_)))), (rm 10, .inl (cI, 20, .inl (mp c))), (rm 11, .inl (cI, 20, .inl (upd (mp h) (4 + o) (h (5 + o)))))] rfl dX6_sales_138 ?_
                refine g_ws (ws2 := [(mo, o6 rm (nI tl) pl (nI np) (nI nq) (nI nd) rt rp rq rd (nI cnt) (nI na) sd rw rx tm tf sm sf), (rm 1, .inl (cI, 5, .inl (fun k_ => nI (P 0 k_)))), (rm 2, .inl (cI, 5, .inl (fun k_ => nI (P 1 k_)))), (rm 3, .inl (cI, 5, .inl (fun k_ => nI (P 2 k_)))), (rm 4, .inl (cI, 5, .inl (fun k_ => nI (P 3 k_)))), (rm 5, .inl (cI, 5, .inl (fun k_ => nI (P 4 k_)))), (rm 6, .inl (cI, 5, .inl (fun k_ => nI (P 5 k_)))), (rm 10, .inl (cI, 20, .inl (mp c))), (rm 11, .inl (cI, 20, .inl (mp (upd h (5 + o) (h (5 + o))))))]) (congrArg (fun zz : Nat → Int32 => ([(mo, o6 rm (nI tl) pl (nI np) (nI nq) (nI nd) rt rp rq rd (nI cnt) (nI na) sd rw rx tm tf sm sf), (rm 1, .inl (cI, 5, .inl (fun k_ => nI (P 0 k_)))), (rm 2, .inl (cI, 5, .inl (fun k_ => nI (P 1 k_)))), (rm 3, .inl (cI, 5, .inl (fun k_ => nI (P 2 k_)))), (rm 4, .inl (cI, 5, .inl (fun k_ => nI (P 3 k_)))), (rm 5, .inl (cI, 5, .inl (fun k_ => nI (P 4 k_)))), (rm 6, .inl (cI, 5, .inl (fun k_ => nI (P 5 k_)))), (rm 10, .inl (cI, 20, .inl (mp c))), (rm 11, .inl (cI, 20, .inl zz))] : va_W)) (mpu_4 _ _ (by omega))) ?_
                refine g_iinc (v := nI (o + 1)) (lv' := [(0, .ref mo), (1, .int (nI mq)), (2, .int (nI x)), (3, .int (nI ub)), (4, .int (nI pw)), (5, .int (nI (pop5 pw))), (6, .int (nI en)), (7, .int (nI i)), (8, .int (nI (o + 1)))]) hC 8 [1, 2, 3, 4, 5, 6, 7, 8, 0] dX6_sales_139 rfl (nI_add _ 1) (by decide) rfl ?_
                refine g_goto hC 84 dX6_sales_142 (by decide) ?_
                refine ih84 (o + 1) (upd h (5 + o) (h (5 + o))) ?_ ?_ ?_
                · omega
                · show _ = upd (setlF pw i c o) (5 + o) (if hasB i o then nI 2 else if hasB pw o then nI 0 else setlF pw i c o (5 + o))
                  rw [← hh, if_neg h108t, if_neg h122t]
                · omega
              refine g_iconst (v := nI 0) hC dX6_sales_125 rfl ?_
              refine g_goto hC 138 dX6_sales_126 (by decide) ?_
              refine g_iast hC 8 rfl (4 + o) rfl (by omega) (by decide) [(mo, o6 rm (nI tl) pl (nI np) (nI nq) (nI nd) rt rp rq rd (nI cnt) (nI na) sd rw rx tm tf sm sf), (rm 1, .inl (cI, 5, .inl (fun k_ => nI (P 0 k_)))), (rm 2, .inl (cI, 5, .inl (fun k_ => nI (P 1 k_)))), (rm 3, .inl (cI, 5, .inl (fun k_ => nI (P 2 k_)))), (rm 4, .inl (cI, 5, .inl (fun k_ => nI (P 3 k_)))), (rm 5, .inl (cI, 5, .inl (fun k_ => nI (P 4 k_)))), (rm 6, .inl (cI, 5, .inl (fun k_ => nI (P 5 k_)))), (rm 10, .inl (cI, 20, .inl (mp c))), (rm 11, .inl (cI, 20, .inl (upd (mp h) (4 + o) (nI 0))))] rfl dX6_sales_138 ?_
              refine g_ws (ws2 := [(mo, o6 rm (nI tl) pl (nI np) (nI nq) (nI nd) rt rp rq rd (nI cnt) (nI na) sd rw rx tm tf sm sf), (rm 1, .inl (cI, 5, .inl (fun k_ => nI (P 0 k_)))), (rm 2, .inl (cI, 5, .inl (fun k_ => nI (P 1 k_)))), (rm 3, .inl (cI, 5, .inl (fun k_ => nI (P 2 k_)))), (rm 4, .inl (cI, 5, .inl (fun k_ => nI (P 3 k_)))), (rm 5, .inl (cI, 5, .inl (fun k_ => nI (P 4 k_)))), (rm 6, .inl (cI, 5, .inl (fun k_ => nI (P 5 k_)))), (rm 10, .inl (cI, 20, .inl (mp c))), (rm 11, .inl (cI, 20, .inl (mp (upd h (5 + o) (nI 0)))))]) (congrArg (fun zz : Nat → Int32 => ([(mo, o6 rm (nI tl) pl (nI np) (nI nq) (nI nd) rt rp rq rd (nI cnt) (nI na) sd rw rx tm tf sm sf), (rm 1, .inl (cI, 5, .inl (fun k_ => nI (P 0 k_)))), (rm 2, .inl (cI, 5, .inl (fun k_ => nI (P 1 k_)))), (rm 3, .inl (cI, 5, .inl (fun k_ => nI (P 2 k_)))), (rm 4, .inl (cI, 5, .inl (fun k_ => nI (P 3 k_)))), (rm 5, .inl (cI, 5, .inl (fun k_ => nI (P 4 k_)))), (rm 6, .inl (cI, 5, .inl (fun k_ => nI (P 5 k_)))), (rm 10, .inl (cI, 20, .inl (mp c))), (rm 11, .inl (cI, 20, .inl zz))] : va_W)) (mpu_4 _ _ (by omega))) ?_
              refine g_iinc (v := nI (o + 1)) (lv' := [(0, .ref mo), (1, .int (nI mq)), (2, .int (nI x)), (3, .int (nI ub)), (4, .int (nI pw)), (5, .int (nI (pop5 pw))), (6, .int (nI en)), (7, .int (nI i)), (8, .int (nI (o + 1)))]) hC 8 [1, 2, 3, 4, 5, 6, 7, 8, 0] dX6_sales_139 rfl (nI_add _ 1) (by decide) rfl ?_
              refine g_goto hC 84 dX6_sales_142 (by decide) ?_
              refine ih84 (o + 1) (upd h (5 + o) (nI 0)) ?_ ?_ ?_
              · omega
              · show _ = upd (setlF pw i c o) (5 + o) (if hasB i o then nI 2 else if hasB pw o then nI 0 else setlF pw i c o (5 + o))
                rw [← hh, if_neg h108t, if_pos h122f]
              · omega
            refine g_iconst (v := nI 2) hC dX6_sales_111 rfl ?_
            refine g_goto hC 138 dX6_sales_112 (by decide) ?_
            refine g_iast hC 8 rfl (4 + o) rfl (by omega) (by decide) [(mo, o6 rm (nI tl) pl (nI np) (nI nq) (nI nd) rt rp rq rd (nI cnt) (nI na) sd rw rx tm tf sm sf), (rm 1, .inl (cI, 5, .inl (fun k_ => nI (P 0 k_)))), (rm 2, .inl (cI, 5, .inl (fun k_ => nI (P 1 k_)))), (rm 3, .inl (cI, 5, .inl (fun k_ => nI (P 2 k_)))), (rm 4, .inl (cI, 5, .inl (fun k_ => nI (P 3 k_)))), (rm 5, .inl (cI, 5, .inl (fun k_ => nI (P 4 k_)))), (rm 6, .inl (cI, 5, .inl (fun k_ => nI (P 5 k_)))), (rm 10, .inl (cI, 20, .inl (mp c))), (rm 11, .inl (cI, 20, .inl (upd (mp h) (4 + o) (nI 2))))] rfl dX6_sales_138 ?_
            refine g_ws (ws2 := [(mo, o6 rm (nI tl) pl (nI np) (nI nq) (nI nd) rt rp rq rd (nI cnt) (nI na) sd rw rx tm tf sm sf), (rm 1, .inl (cI, 5, .inl (fun k_ => nI (P 0 k_)))), (rm 2, .inl (cI, 5, .inl (fun k_ => nI (P 1 k_)))), (rm 3, .inl (cI, 5, .inl (fun k_ => nI (P 2 k_)))), (rm 4, .inl (cI, 5, .inl (fun k_ => nI (P 3 k_)))), (rm 5, .inl (cI, 5, .inl (fun k_ => nI (P 4 k_)))), (rm 6, .inl (cI, 5, .inl (fun k_ => nI (P 5 k_)))), (rm 10, .inl (cI, 20, .inl (mp c))), (rm 11, .inl (cI, 20, .inl (mp (upd h (5 + o) (nI 2)))))]) (congrArg (fun zz : Nat → Int32 => ([(mo, o6 rm (nI tl) pl (nI np) (nI nq) (nI nd) rt rp rq rd (nI cnt) (nI na) sd rw rx tm tf sm sf), (rm 1, .inl (cI, 5, .inl (fun k_ => nI (P 0 k_)))), (rm 2, .inl (cI, 5, .inl (fun k_ => nI (P 1 k_)))), (rm 3, .inl (cI, 5, .inl (fun k_ => nI (P 2 k_)))), (rm 4, .inl (cI, 5, .inl (fun k_ => nI (P 3 k_)))), (rm 5, .inl (cI, 5, .inl (fun k_ => nI (P 4 k_)))), (rm 6, .inl (cI, 5, .inl (fun k_ => nI (P 5 k_)))), (rm 10, .inl (cI, 20, .inl (mp c))), (rm 11, .inl (cI, 20, .inl zz))] : va_W)) (mpu_4 _ _ (by omega))) ?_
            refine g_iinc (v := nI (o + 1)) (lv' := [(0, .ref mo), (1, .int (nI mq)), (2, .int (nI x)), (3, .int (nI ub)), (4, .int (nI pw)), (5, .int (nI (pop5 pw))), (6, .int (nI en)), (7, .int (nI i)), (8, .int (nI (o + 1)))]) hC 8 [1, 2, 3, 4, 5, 6, 7, 8, 0] dX6_sales_139 rfl (nI_add _ 1) (by decide) rfl ?_
            refine g_goto hC 84 dX6_sales_142 (by decide) ?_
            refine ih84 (o + 1) (upd h (5 + o) (nI 2)) ?_ ?_ ?_
            · omega
            · show _ = upd (setlF pw i c o) (5 + o) (if hasB i o then nI 2 else if hasB pw o then nI 0 else setlF pw i c o (5 + o))
              rw [← hh, if_pos h108f]
            · omega
        refine L84 _ 0 c ?_ ?_ (Nat.lt_succ_self _)
        · omega
        · rfl
    refine L56 _ 0 0 g ?_ ?_ (Nat.lt_succ_self _)
    · omega
    · rfl
  refine g_bipush (v := (-2)) hC dX6_sales_29 (by decide +kernel) ?_
  subst hQ
  refine g_iret (v := -2) hC (g) hr ?_ rfl dX6_sales_31
  rw [salesR, if_neg (fun q => h26f q.2)]

abbrev rm_X6_share : Room := { frames := 2, cells := 0, slots := 0, locals := 47 }
set_option maxRecDepth 100000 in
set_option maxHeartbeats 16000000 in
theorem c_X6_share (l : Launch) (D : va_G) (cI cZ : ClassId) (mo : Nat) (rm : Nat → Nat) (tl : Nat) (pl : Int32) (np : Nat) (nq : Nat) (nd : Nat) (rt : Int32) (rp : Int32) (rq : Int32) (rd : Int32) (cnt : Nat) (na : Nat) (sd : Int64) (rw : Int32) (rx : Int32) (tm : Int32) (tf : Int32) (sm : Int32) (sf : Int32) (P : Nat → Nat → Nat) (c : Nat → Int32) (g : Nat → Int32) (t : Nat) (va : Nat → Int32) (a : Int32) (ub : Nat) (hW : WFP np nq nd P) (hFr : Fr P nd c t) (ht : t ≤ 200) (hub : ub < 2) : CtI l yX6_share wsX6_share rm_X6_share D cI cZ [.ref mo, .int a, .int (nI ub)] [(mo, o6 rm (nI tl) pl (nI np) (nI nq) (nI nd) rt rp rq rd (nI cnt) (nI na) sd rw rx tm tf sm sf), (rm 1, .inl (cI, 5, .inl (fun k_ => nI (P 0 k_)))), (rm 2, .inl (cI, 5, .inl (fun k_ => nI (P 1 k_)))), (rm 3, .inl (cI, 5, .inl (fun k_ => nI (P 2 k_)))), (rm 4, .inl (cI, 5, .inl (fun k_ => nI (P 3 k_)))), (rm 5, .inl (cI, 5, .inl (fun k_ => nI (P 4 k_)))), (rm 6, .inl (cI, 5, .inl (fun k_ => nI (P 5 k_)))), (rm 10, .inl (cI, 20, .inl (mp c))), (rm 11, .inl (cI, 20, .inl (mp g))), (rm 18, .inl (cI, 32, .inl va))] (fun (r : Int32) (z : (Nat → Int32) × (Nat → Int32)) => match z with | (g2, va2) => r = shareR nq nd P c a ub) (fun (z : (Nat → Int32) × (Nat → Int32)) => match z with | (g2, va2) => [(mo, o6 rm (nI tl) pl (nI np) (nI nq) (nI nd) rt rp rq rd (nI cnt) (nI na) sd rw rx tm tf sm sf), (rm 1, .inl (cI, 5, .inl (fun k_ => nI (P 0 k_)))), (rm 2, .inl (cI, 5, .inl (fun k_ => nI (P 1 k_)))), (rm 3, .inl (cI, 5, .inl (fun k_ => nI (P 2 k_)))), (rm 4, .inl (cI, 5, .inl (fun k_ => nI (P 3 k_)))), (rm 5, .inl (cI, 5, .inl (fun k_ => nI (P 4 k_)))), (rm 6, .inl (cI, 5, .inl (fun k_ => nI (P 5 k_)))), (rm 10, .inl (cI, 20, .inl (mp c))), (rm 11, .inl (cI, 20, .inl (mp g2))), (rm 18, .inl (cI, 32, .inl va2))]) 0 0 := by
  refine g_startI (ret := (some .int)) (own := RX6) (lv0 := [(0, .ref mo), (1, .int a), (2, .int (nI ub))]) (by decide) rfl rfl (Nat.le_of_ble_eq_true rfl) rfl ?_
  intro p e s m args below meth cd A Q hin hr hQ hC
  have hcw6 : ∀ w ∈ wsX60, w ∈ wsX6_share := fun _ h => List.mem_cons_of_mem _ (List.mem_append_right _ h)
  have w1 := hC.1.2.2.2.2 (.fieldLink "PluckBrokerModel" 68 "PluckBrokerModel" "thrown" "I") (List.mem_of_getElem? (i := 1) rfl)
  have w2 := hC.1.2.2.2.2 (.fieldLink "PluckBrokerModel" 79 "PluckBrokerModel" "qualities" "I") (List.mem_of_getElem? (i := 2) rfl)
  have w3 := hC.1.2.2.2.2 (.fieldLink "PluckBrokerModel" 43 "PluckBrokerModel" "trial" "[I") (List.mem_of_getElem? (i := 3) rfl)
  have w4 := hC.1.2.2.2.2 (.fieldLink "PluckBrokerModel" 65 "PluckBrokerModel" "value" "[I") (List.mem_of_getElem? (i := 4) rfl)
  obtain ⟨⟨hnp, hnq, hnd⟩, hq4, hd5⟩ := id hW
  obtain ⟨M, hM⟩ : ∃ M, M = 2 ^ nq := ⟨_, rfl⟩
  have hM32 : M ≤ 32 := by rw [hM]; exact pow2_32 hnq
  refine g_aload_n hC 0 dX6_share_0 rfl rfl ?_
  refine g_iconst (v := nI 0) hC dX6_share_1 rfl ?_
  refine g_put (C := RX6) (T := TX6) (N := 38) (ci := 6) (v := .int (nI 0)) hC hcw6 tyX6 tyX6_ok nmX6 0 rfl rfl 0 (by decide) w1 (fun _ h => h) rfl (tyX6_ok 0 (by decide)) rfl rfl (Nat.le_of_ble_eq_true rfl) [(mo, o6 rm (nI tl) pl (nI np) (nI nq) (nI nd) rt rp rq rd (nI cnt) (nI na) sd rw rx tm tf sm sf), (rm 1, .inl (cI, 5, .inl (fun k_ => nI (P 0 k_)))), (rm 2, .inl (cI, 5, .inl (fun k_ => nI (P 1 k_)))), (rm 3, .inl (cI, 5, .inl (fun k_ => nI (P 2 k_)))), (rm 4, .inl (cI, 5, .inl (fun k_ => nI (P 3 k_)))), (rm 5, .inl (cI, 5, .inl (fun k_ => nI (P 4 k_)))), (rm 6, .inl (cI, 5, .inl (fun k_ => nI (P 5 k_)))), (rm 10, .inl (cI, 20, .inl (mp c))), (rm 11, .inl (cI, 20, .inl (mp g))), (rm 18, .inl (cI, 32, .inl va))] rfl dX6_share_2 ?_
  refine g_aload_n hC 0 dX6_share_5 rfl rfl ?_
  refine g_iload_n hC 1 dX6_share_6 rfl rfl ?_
  refine g_callVip (As := [.int a]) (rest := []) hC (bI (¬ inR a nq)) (c_X6_noQuality l D cI cZ mo rm tl pl np nq nd rt rp rq rd cnt na sd rw rx tm tf sm sf a (by omega)) (cwV 1 hC.1.2.2.2.2 gX6_share_X6_noQuality rfl rfl rfl dV_X6_noQuality ⟨Nat.le_of_ble_eq_true rfl, Nat.le_of_ble_eq_true rfl⟩) rfl rfl rfl rfl (Nat.le_of_ble_eq_true rfl) dX6_share_7 ⟨Nat.le_of_ble_eq_true rfl, Nat.le_of_ble_eq_true rfl⟩ [0] rfl rfl ?_
  refine g_if_eq_b hC 15 dX6_share_10 (by decide) (fun h10t => ?_) (fun h10f => ?_)
  · obtain ⟨k, hk, rfl⟩ := inR_n (by omega) (Decidable.not_not.mp h10t)
    have hin2 := inR_k (n := nq) (by omega) hk
    have hKk : K (nI k) = k := K_n (by omega)
    refine g_iconst (v := nI 0) hC dX6_share_15 rfl ?_
    refine g_istore_n (lv' := [(0, .ref mo), (1, .int (nI k)), (2, .int (nI ub)), (3, .int (nI 0))]) hC [1, 2, 3, 0] dX6_share_16 rfl (by decide) rfl ?_
    have L17 : ∀ (n : Nat) (i : Nat) (gg : Nat → Int32) (vv : Nat → Int32), (i ≤ M) → (∀ z, z < i → vv z = nI (pop5 (deedsThat nd (passN P nq nd (comeF z c nq) 20) (nI 1)))) → M - i < n → G p l e rm_X6_share s m args below meth cd D A 0 0 Q 6 [(mo, o6 rm (nI tl) pl (nI np) (nI nq) (nI nd) rt rp rq rd (nI cnt) (nI na) sd rw rx tm tf sm sf), (rm 1, .inl (cI, 5, .inl (fun k_ => nI (P 0 k_)))), (rm 2, .inl (cI, 5, .inl (fun k_ => nI (P 1 k_)))), (rm 3, .inl (cI, 5, .inl (fun k_ => nI (P 2 k_)))), (rm 4, .inl (cI, 5, .inl (fun k_ => nI (P 3 k_)))), (rm 5, .inl (cI, 5, .inl (fun k_ => nI (P 4 k_)))), (rm 6, .inl (cI, 5, .inl (fun k_ => nI (P 5 k_)))), (rm 10, .inl (cI, 20, .inl (mp c))), (rm 11, .inl (cI, 20, .inl (mp gg))), (rm 18, .inl (cI, 32, .inl vv))] 17 [(0, .ref mo), (1, .int (nI k)), (2, .int (nI ub)), (3, .int (nI i))] [] := by
      intro n
      induction n with
      | zero => intro i gg vv hi hvv hn; exact absurd hn (Nat.not_lt_zero _)
      | succ n ih17 =>
        intro i gg vv hi hvv hn
        refine g_iload_n hC 3 dX6_share_17 rfl rfl ?_
        refine g_iconst (v := nI 1) hC dX6_share_18 rfl ?_
        refine g_aload_n hC 0 dX6_share_19 rfl rfl ?_
        refine g_get (C := RX6) (T := TX6) (N := 38) (ci := 6) (v := .int (nI nq)) hC hcw6 0 rfl rfl 5 (by decide) w2 (fun _ h => h) rfl dX6_share_20 ?_
        refine g_shl1_n (b := nq) hC (by omega) dX6_share_23 ?_
        refine g_top (y := nI M) (by rw [hM]) ?_
        refine g_icmp_ge_n (a := i) (b := M) hC (by omega) (by omega) 110 dX6_share_24 (by decide) (fun h24t => ?_) (fun h24f => ?_)
        · have ei : i = M := by omega
          rw [ei] at hvv
          obtain ⟨Dd, hDd⟩ : ∃ x, x = cntN (addQn P t c k) nd := ⟨_, rfl⟩
          have hval : ∀ z, z < M → vv z = nI (cntN (alr P t c) nd + cntN (byQ P t c z) nd) := fun z hz => by rw [hvv z hz, val_come hW (by omega) hFr.1 z]
          refine g_iconst (v := nI 0) hC dX6_share_110 rfl ?_
          refine g_istore_n (lv' := [(0, .ref mo), (1, .int (nI k)), (2, .int (nI ub)), (3, .int (nI 0))]) hC [1, 2, 3, 0] dX6_share_111 rfl (by decide) rfl ?_
          refine g_iconst (v := nI 0) hC dX6_share_112 rfl ?_
          refine g_istore (lv' := [(0, .ref mo), (1, .int (nI k)), (2, .int (nI ub)), (3, .int (nI 0)), (4, .int (nI 0))]) hC [1, 2, 3, 4, 0] dX6_share_113 (by decide) rfl ?_
          have L115 : ∀ (n : Nat) (z : Nat) (up : Nat), (z ≤ M) → (up = wsum nq k z * Dd) → M - z < n → G p l e rm_X6_share s m args below meth cd D A 0 0 Q 6 [(mo, o6 rm (nI tl) pl (nI np) (nI nq) (nI nd) rt rp rq rd (nI cnt) (nI na) sd rw rx tm tf sm sf), (rm 1, .inl (cI, 5, .inl (fun k_ => nI (P 0 k_)))), (rm 2, .inl (cI, 5, .inl (fun k_ => nI (P 1 k_)))), (rm 3, .inl (cI, 5, .inl (fun k_ => nI (P 2 k_)))), (rm 4, .inl (cI, 5, .inl (fun k_ => nI (P 3 k_)))), (rm 5, .inl (cI, 5, .inl (fun k_ => nI (P 4 k_)))), (rm 6, .inl (cI, 5, .inl (fun k_ => nI (P 5 k_)))), (rm 10, .inl (cI, 20, .inl (mp c))), (rm 11, .inl (cI, 20, .inl (mp gg))), (rm 18, .inl (cI, 32, .inl vv))] 115 [(0, .ref mo), (1, .int (nI k)), (2, .int (nI ub)), (3, .int (nI up)), (4, .int (nI z))] [] := by
            intro n
            induction n with
            | zero => intro z up hz hup hn; exact absurd hn (Nat.not_lt_zero _)
            | succ n ih115 =>
              intro z up hz hup hn
              refine g_iload hC 4 dX6_share_115 rfl ?_
              refine g_iconst (v := nI 1) hC dX6_share_117 rfl ?_
              refine g_aload_n hC 0 dX6_share_118 rfl rfl ?_
              refine g_get (C := RX6) (T := TX6) (N := 38) (ci := 6) (v := .int (nI nq)) hC hcw6 0 rfl rfl 5 (by decide) w2 (fun _ h => h) rfl dX6_share_119 ?_
              refine g_shl1_n (b := nq) hC (by omega) dX6_share_122 ?_
              refine g_top (y := nI M) (by rw [hM]) ?_
              refine g_icmp_ge_n (a := z) (b := M) hC (by omega) (by omega) 189 dX6_share_123 (by decide) (fun h123t => ?_) (fun h123f => ?_)
              · have ez : z = M := by omega
                rw [ez, hM, wsum_all nq (by omega) k hk] at hup
                have hD5 : Dd ≤ 5 := by rw [hDd]; exact Nat.le_trans (cnt_le nd) hnd
                have hf1 := fac_le nq (by omega)
                have hf0 := fac_pos nq
                have hu : up ≤ 120 * 5 := by rw [hup]; exact Nat.mul_le_mul hf1 hD5
                refine g_iload_n hC 3 dX6_share_189 rfl rfl ?_
                refine g_aload_n hC 0 dX6_share_190 rfl rfl ?_
                refine g_get (C := RX6) (T := TX6) (N := 38) (ci := 6) (v := .int (nI nq)) hC hcw6 0 rfl rfl 5 (by decide) w2 (fun _ h => h) rfl dX6_share_191 ?_
                refine g_callSip (As := [.int (nI nq)]) (rest := [.int (nI up)]) hC (nI (fac nq)) (c_X6_ways l D cI cZ nq (by omega)) (va_cwS 1 hC.1.2.2.2.2 gX6_share_X6_ways rfl rfl rfl dS_X6_ways ⟨Nat.le_of_ble_eq_true rfl, Nat.le_of_ble_eq_true rfl⟩) rfl rfl (Nat.le_of_ble_eq_true rfl) dX6_share_194 ⟨Nat.le_of_ble_eq_true rfl, Nat.le_of_ble_eq_true rfl⟩ [] rfl rfl ?_
                refine g_iload_n hC 2 dX6_share_197 rfl rfl ?_
                refine g_callSip (As := [.int (nI up), .int (nI (fac nq)), .int (nI ub)]) (rest := []) hC (nI (fracR up (fac nq) ub)) (c_X6_fraction l D cI cZ up (fac nq) ub (by omega) (by omega) hf0 (by first | assumption | omega)) (va_cwS 3 hC.1.2.2.2.2 gX6_share_X6_fraction rfl rfl rfl dS_X6_fraction ⟨Nat.le_of_ble_eq_true rfl, Nat.le_of_ble_eq_true rfl⟩) rfl rfl (Nat.le_of_ble_eq_true rfl) dX6_share_198 ⟨Nat.le_of_ble_eq_true rfl, Nat.le_of_ble_eq_true rfl⟩ [] rfl rfl ?_
                subst hQ
                refine g_iret (v := nI (fracR up (fac nq) ub)) hC (gg, vv) hr ?_ rfl dX6_share_201
                rw [shareR, if_pos hin2, hup, frac_mul hf0, shA_q hW (by omega) hFr.1 hk, shA_n hW (by omega) hFr.1, ← hDd, Nat.add_sub_cancel_left]
              refine g_iload hC 4 dX6_share_126 rfl ?_
              refine g_iload_n hC 1 dX6_share_128 rfl rfl ?_
              refine g_callSip (As := [.int (nI z), .int (nI k)]) (rest := []) hC (bI (hasB z k)) (c_X6_has l D cI cZ z k (by omega) (by omega)) (va_cwS 2 hC.1.2.2.2.2 gX6_share_X6_has rfl rfl rfl dS_X6_has ⟨Nat.le_of_ble_eq_true rfl, Nat.le_of_ble_eq_true rfl⟩) rfl rfl (Nat.le_of_ble_eq_true rfl) dX6_share_129 ⟨Nat.le_of_ble_eq_true rfl, Nat.le_of_ble_eq_true rfl⟩ [] rfl rfl ?_
              refine g_if_ne_b hC 183 dX6_share_132 (by decide) (fun h132t => ?_) (fun h132f => ?_)
              · refine g_iinc (v := nI (z + 1)) (lv' := [(0, .ref mo), (1, .int (nI k)), (2, .int (nI ub)), (3, .int (nI up)), (4, .int (nI (z + 1)))]) hC 4 [1, 2, 3, 4, 0] dX6_share_183 rfl (nI_add _ 1) (by decide) rfl ?_
                refine g_goto hC 115 dX6_share_186 (by decide) ?_
                refine ih115 (z + 1) up ?_ ?_ ?_
                · omega
                · show _ = (wsum nq k z + (if hasB z k then 0 else fac (pop5 z) * fac (nq - 1 - pop5 z))) * Dd
                  rw [if_pos h132t]; exact hup
                · omega
              have hpl := pop_lt nq (by omega) z (by omega) k hk h132f
              have hor : z ||| 2 ^ k < M := by rw [hM]; exact or_lt nq (by omega) z (by omega) k hk
              obtain ⟨V0, hV0⟩ : ∃ x, x = cntN (alr P t c) nd + cntN (byQ P t c z) nd := ⟨_, rfl⟩
              have hv1 : vv (z ||| 2 ^ k) = nI (V0 + Dd) := by rw [hval _ hor, val_add hW (by omega) (by omega) h132f, hV0, hDd, Nat.add_assoc]
              have hv0 : vv z = nI V0 := by rw [hval z (by omega), hV0]
              refine g_iload hC 4 dX6_share_135 rfl ?_
              refine g_callSip (As := [.int (nI z)]) (rest := []) hC (nI (pop5 z)) (c_X6_many l D cI cZ z (by omega)) (va_cwS 1 hC.1.2.2.2.2 gX6_share_X6_many rfl rfl rfl dS_X6_many ⟨Nat.le_of_ble_eq_true rfl, Nat.le_of_ble_eq_true rfl⟩) rfl rfl (Nat.le_of_ble_eq_true rfl) dX6_share_137 ⟨Nat.le_of_ble_eq_true rfl, Nat.le_of_ble_eq_true rfl⟩ [] rfl rfl ?_
              refine g_istore (lv' := [(0, .ref mo), (1, .int (nI k)), (2, .int (nI ub)), (3, .int (nI up)), (4, .int (nI z)), (5, .int (nI (pop5 z)))]) hC [1, 2, 3, 4, 5, 0] dX6_share_140 (by decide) rfl ?_
              refine g_iload_n hC 3 dX6_share_142 rfl rfl ?_
              refine g_iload hC 5 dX6_share_143 rfl ?_
              refine g_callSip (As := [.int (nI (pop5 z))]) (rest := [.int (nI up)]) hC (nI (fac (pop5 z))) (c_X6_ways l D cI cZ (pop5 z) (pop5_le5 _)) (va_cwS 1 hC.1.2.2.2.2 gX6_share_X6_ways rfl rfl rfl dS_X6_ways ⟨Nat.le_of_ble_eq_true rfl, Nat.le_of_ble_eq_true rfl⟩) rfl rfl (Nat.le_of_ble_eq_true rfl) dX6_share_145 ⟨Nat.le_of_ble_eq_true rfl, Nat.le_of_ble_eq_true rfl⟩ [] rfl rfl ?_
              refine g_aload_n hC 0 dX6_share_148 rfl rfl ?_
              refine g_get (C := RX6) (T := TX6) (N := 38) (ci := 6) (v := .int (nI nq)) hC hcw6 0 rfl rfl 5 (by decide) w2 (fun _ h => h) rfl dX6_share_149 ?_
              refine g_iconst (v := nI 1) hC dX6_share_152 rfl ?_
              refine g_isub_n (a := nq) (b := 1) hC (by omega) dX6_share_153 ?_
              refine g_iload hC 5 dX6_share_154 rfl ?_
              refine g_isub_n (a := (nq - 1)) (b := (pop5 z)) hC (by omega) dX6_share_156 ?_
              refine g_callSip (As := [.int (nI (nq - 1 - (pop5 z)))]) (rest := [.int (nI (fac (pop5 z))), .int (nI up)]) hC (nI (fac (nq - 1 - (pop5 z)))) (c_X6_ways l D cI cZ (nq - 1 - (pop5 z)) (by omega)) (va_cwS 1 hC.1.2.2.2.2 gX6_share_X6_ways rfl rfl rfl dS_X6_ways ⟨Nat.le_of_ble_eq_true rfl, Nat.le_of_ble_eq_true rfl⟩) rfl rfl (Nat.le_of_ble_eq_true rfl) dX6_share_157 ⟨Nat.le_of_ble_eq_true rfl, Nat.le_of_ble_eq_true rfl⟩ [] rfl rfl ?_
              refine g_imul_n (a := (fac (pop5 z))) (b := (fac (nq - 1 - (pop5 z)))) hC dX6_share_160 ?_
              refine g_aload_n hC 0 dX6_share_161 rfl rfl ?_
              refine g_get (C := RX6) (T := TX6) (N := 38) (ci := 6) (v := .ref (rm 18)) hC hcw6 0 rfl rfl 37 (by decide) w4 (fun _ h => h) rfl dX6_share_162 ?_
              refine g_iload hC 4 dX6_share_165 rfl ?_
              refine g_iconst (v := nI 1) hC dX6_share_167 rfl ?_
              refine g_iload_n hC 1 dX6_share_168 rfl rfl ?_
              refine g_shl1_n (b := k) hC (by omega) dX6_share_169 ?_
              refine g_ior_n (a := z) (b := (2 ^ k)) hC dX6_share_170 ?_
              refine g_iald hC 9 rfl (z ||| (2 ^ k)) rfl (by exact Nat.lt_of_lt_of_le hor hM32) (by decide) dX6_share_171 ?_
              refine g_top (y := nI (V0 + Dd)) hv1 ?_
              refine g_aload_n hC 0 dX6_share_172 rfl rfl ?_
              refine g_get (C := RX6) (T := TX6) (N := 38) (ci := 6) (v := .ref (rm 18)) hC hcw6 0 rfl rfl 37 (by decide) w4 (fun _ h => h) rfl dX6_share_173 ?_
              refine g_iload hC 4 dX6_share_176 rfl ?_
              refine g_iald hC 9 rfl z rfl (by omega) (by decide) dX6_share_178 ?_
              refine g_top (y := nI V0) hv0 ?_
              refine g_isub_n (a := (V0 + Dd)) (b := V0) hC (by omega) dX6_share_179 ?_
              refine g_top (y := nI Dd) (by rw [Nat.add_sub_cancel_left]) ?_
              refine g_imul_n (a := ((fac (pop5 z)) * (fac (nq - 1 - (pop5 z))))) (b := Dd) hC dX6_share_180 ?_
              refine g_iadd_n (a := up) (b := (((fac (pop5 z)) * (fac (nq - 1 - (pop5 z)))) * Dd)) hC dX6_share_181 ?_
              refine g_istore_n (lv' := [(0, .ref mo), (1, .int (nI k)), (2, .int (nI ub)), (3, .int (nI (up + (((fac (pop5 z)) * (fac (nq - 1 - (pop5 z)))) * Dd)))), (4, .int (nI z)), (5, .int (nI (pop5 z)))]) hC [1, 2, 3, 0, 4, 5] dX6_share_182 rfl (by decide) rfl ?_
              refine g_iinc (v := nI (z + 1)) (lv' := [(0, .ref mo), (1, .int (nI k)), (2, .int (nI ub)), (3, .int (nI (up + (((fac (pop5 z)) * (fac (nq - 1 - (pop5 z)))) * Dd)))), (4, .int (nI (z + 1))), (5, .int (nI (pop5 z)))]) hC 4 [1, 2, 3, 4, 0, 5] dX6_share_183 rfl (nI_add _ 1) (by decide) rfl ?_
              refine g_goto hC 115 dX6_share_186 (by decide) ?_
              refine g_lv [0, 1, 2, 3, 4] (lv2 := [(0, .ref mo), (1, .int (nI k)), (2, .int (nI ub)), (3, .int (nI (up + (((fac (pop5 z)) * (fac (nq - 1 - (pop5 z)))) * Dd)))), (4, .int (nI (z + 1)))]) rfl ?_
              refine ih115 (z + 1) (up + (((fac (pop5 z)) * (fac (nq - 1 - (pop5 z)))) * Dd)) ?_ ?_ ?_
              · omega
              · show _ = (wsum nq k z + (if hasB z k then 0 else fac (pop5 z) * fac (nq - 1 - pop5 z))) * Dd
                rw [if_neg h132f, Nat.add_mul, ← hup]
              · omega
          refine L115 _ 0 0 ?_ ?_ (Nat.lt_succ_self _)
          · omega
          · rw [show wsum nq k 0 = 0 from rfl, Nat.zero_mul]
        refine g_aload_n hC 0 dX6_share_27 rfl rfl ?_
        refine g_callVv (As := []) (rest := []) hC (c_X6_begin l D cI cZ mo rm tl pl np nq nd rt rp rq rd cnt na sd rw rx tm tf sm sf c gg) (cwV 0 hC.1.2.2.2.2 gX6_share_X6_begin rfl rfl rfl dV_X6_begin ⟨Nat.le_of_ble_eq_true rfl, Nat.le_of_ble_eq_true rfl⟩) rfl rfl rfl rfl (Nat.le_of_ble_eq_true rfl) dX6_share_28 ⟨Nat.le_of_ble_eq_true rfl, Nat.le_of_ble_eq_true rfl⟩ [0, 7, 8] [1, 2, 3, 4, 5, 6, 9] [7, 0, 1, 2, 3, 4, 5, 8, 9, 6] (fun (_ : Unit) => [(mo, o6 rm (nI tl) pl (nI np) (nI nq) (nI nd) rt rp rq rd (nI cnt) (nI na) sd rw rx tm tf sm sf), (rm 1, .inl (cI, 5, .inl (fun k_ => nI (P 0 k_)))), (rm 2, .inl (cI, 5, .inl (fun k_ => nI (P 1 k_)))), (rm 3, .inl (cI, 5, .inl (fun k_ => nI (P 2 k_)))), (rm 4, .inl (cI, 5, .inl (fun k_ => nI (P 3 k_)))), (rm 5, .inl (cI, 5, .inl (fun k_ => nI (P 4 k_)))), (rm 6, .inl (cI, 5, .inl (fun k_ => nI (P 5 k_)))), (rm 10, .inl (cI, 20, .inl (mp c))), (rm 11, .inl (cI, 20, .inl (mp c))), (rm 18, .inl (cI, 32, .inl vv))]) rfl rfl rfl (fun _ => rfl) (fun z28 hp28 => ?_)
        refine g_is (ws2 := [(mo, o6 rm (nI tl) pl (nI np) (nI nq) (nI nd) rt rp rq rd (nI cnt) (nI na) sd rw rx tm tf sm sf), (rm 1, .inl (cI, 5, .inl (fun k_ => nI (P 0 k_)))), (rm 2, .inl (cI, 5, .inl (fun k_ => nI (P 1 k_)))), (rm 3, .inl (cI, 5, .inl (fun k_ => nI (P 2 k_)))), (rm 4, .inl (cI, 5, .inl (fun k_ => nI (P 3 k_)))), (rm 5, .inl (cI, 5, .inl (fun k_ => nI (P 4 k_)))), (rm 6, .inl (cI, 5, .inl (fun k_ => nI (P 5 k_)))), (rm 10, .inl (cI, 20, .inl (mp c))), (rm 11, .inl (cI, 20, .inl (mp c))), (rm 18, .inl (cI, 32, .inl vv))]) (lv2 := [(0, .ref mo), (1, .int (nI k)), (2, .int (nI ub)), (3, .int (nI i))]) (st2 := []) rfl rfl rfl ?_
        refine g_iconst (v := nI 0) hC dX6_share_31 rfl ?_
        refine g_istore (lv' := [(0, .ref mo), (1, .int (nI k)), (2, .int (nI ub)), (3, .int (nI i)), (4, .int (nI 0))]) hC [1, 2, 3, 4, 0] dX6_share_32 (by decide) rfl ?_
        have L34 : ∀ (n : Nat) (o : Nat) (h : Nat → Int32), (o ≤ nq) → (h = comeF i c o) → nq - o < n → G p l e rm_X6_share s m args below meth cd D A 0 0 Q 6 [(mo, o6 rm (nI tl) pl (nI np) (nI nq) (nI nd) rt rp rq rd (nI cnt) (nI na) sd rw rx tm tf sm sf), (rm 1, .inl (cI, 5, .inl (fun k_ => nI (P 0 k_)))), (rm 2, .inl (cI, 5, .inl (fun k_ => nI (P 1 k_)))), (rm 3, .inl (cI, 5, .inl (fun k_ => nI (P 2 k_)))), (rm 4, .inl (cI, 5, .inl (fun k_ => nI (P 3 k_)))), (rm 5, .inl (cI, 5, .inl (fun k_ => nI (P 4 k_)))), (rm 6, .inl (cI, 5, .inl (fun k_ => nI (P 5 k_)))), (rm 10, .inl (cI, 20, .inl (mp c))), (rm 11, .inl (cI, 20, .inl (mp h))), (rm 18, .inl (cI, 32, .inl vv))] 34 [(0, .ref mo), (1, .int (nI k)), (2, .int (nI ub)), (3, .int (nI i)), (4, .int (nI o))] [] := by
          intro n
          induction n with
          | zero => intro o h ho hh hn; exact absurd hn (Nat.not_lt_zero _)
          | succ n ih34 =>
            intro o h ho hh hn
            refine g_iload hC 4 dX6_share_34 rfl ?_
            refine g_aload_n hC 0 dX6_share_36 rfl rfl ?_
            refine g_get (C := RX6) (T := TX6) (N := 38) (ci := 6) (v := .int (nI nq)) hC hcw6 0 rfl rfl 5 (by decide) w2 (fun _ h => h) rfl dX6_share_37 ?_
            refine g_icmp_ge_n (a := o) (b := nq) hC (by omega) (by omega) 80 dX6_share_40 (by decide) (fun h40t => ?_) (fun h40f => ?_)
            · have eo : o = nq := by omega
              rw [eo] at hh
              have ecell : (mp h) = (mp (comeF i c nq)) := by rw [hh]
              refine g_ws (ws2 := [(mo, o6 rm (nI tl) pl (nI np) (nI nq) (nI nd) rt rp rq rd (nI cnt) (nI na) sd rw rx tm tf sm sf), (rm 1, .inl (cI, 5, .inl (fun k_ => nI (P 0 k_)))), (rm 2, .inl (cI, 5, .inl (fun k_ => nI (P 1 k_)))), (rm 3, .inl (cI, 5, .inl (fun k_ => nI (P 2 k_)))), (rm 4, .inl (cI, 5, .inl (fun k_ => nI (P 3 k_)))), (rm 5, .inl (cI, 5, .inl (fun k_ => nI (P 4 k_)))), (rm 6, .inl (cI, 5, .inl (fun k_ => nI (P 5 k_)))), (rm 10, .inl (cI, 20, .inl (mp c))), (rm 11, .inl (cI, 20, .inl (mp (comeF i c nq)))), (rm 18, .inl (cI, 32, .inl vv))]) (congrArg (fun zz : Nat → Int32 => ([(mo, o6 rm (nI tl) pl (nI np) (nI nq) (nI nd) rt rp rq rd (nI cnt) (nI na) sd rw rx tm tf sm sf), (rm 1, .inl (cI, 5, .inl (fun k_ => nI (P 0 k_)))), (rm 2, .inl (cI, 5, .inl (fun k_ => nI (P 1 k_)))), (rm 3, .inl (cI, 5, .inl (fun k_ => nI (P 2 k_)))), (rm 4, .inl (cI, 5, .inl (fun k_ => nI (P 3 k_)))), (rm 5, .inl (cI, 5, .inl (fun k_ => nI (P 4 k_)))), (rm 6, .inl (cI, 5, .inl (fun k_ => nI (P 5 k_)))), (rm 10, .inl (cI, 20, .inl (mp c))), (rm 11, .inl (cI, 20, .inl zz)), (rm 18, .inl (cI, 32, .inl vv))] : va_W)) ecell) ?_
              refine g_aload_n hC 0 dX6_share_80 rfl rfl ?_
              refine g_bipush (v := nI 20) hC dX6_share_81 (by decide +kernel) ?_
              refine g_callVv (As := [.int (nI 20)]) (rest := []) hC (c_X6_goDays l D cI cZ mo rm tl pl np nq nd rt rp rq rd cnt na sd rw rx tm tf sm sf P (comeF i c nq) t 20 (by first | assumption | omega) (Fr_come hFr nq (by omega)) (by first | assumption | omega) (by first | assumption | omega)) (cwV 1 hC.1.2.2.2.2 gX6_share_X6_goDays rfl rfl rfl dV_X6_goDays ⟨Nat.le_of_ble_eq_true rfl, Nat.le_of_ble_eq_true rfl⟩) rfl rfl rfl rfl (Nat.le_of_ble_eq_true rfl) dX6_share_83 ⟨Nat.le_of_ble_eq_true rfl, Nat.le_of_ble_eq_true rfl⟩ [0, 1, 3, 4, 5, 6, 8] [2, 7, 9] [3, 4, 0, 5, 6, 7, 8, 1, 9, 2] (fun (_ : Unit) => [(mo, o6 rm (nI tl) pl (nI np) (nI nq) (nI nd) rt rp rq rd (nI cnt) (nI na) sd rw rx tm tf sm sf), (rm 1, .inl (cI, 5, .inl (fun k_ => nI (P 0 k_)))), (rm 2, .inl (cI, 5, .inl (fun k_ => nI (P 1 k_)))), (rm 3, .inl (cI, 5, .inl (fun k_ => nI (P 2 k_)))), (rm 4, .inl (cI, 5, .inl (fun k_ => nI (P 3 k_)))), (rm 5, .inl (cI, 5, .inl (fun k_ => nI (P 4 k_)))), (rm 6, .inl (cI, 5, .inl (fun k_ => nI (P 5 k_)))), (rm 10, .inl (cI, 20, .inl (mp c))), (rm 11, .inl (cI, 20, .inl (mp (passN P nq nd (comeF i c nq) 20)))), (rm 18, .inl (cI, 32, .inl vv))]) rfl rfl rfl (fun _ => rfl) (fun z83 hp83 => ?_)
              refine g_is (ws2 := [(mo, o6 rm (nI tl) pl (nI np) (nI nq) (nI nd) rt rp rq rd (nI cnt) (nI na) sd rw rx tm tf sm sf), (rm 1, .inl (cI, 5, .inl (fun k_ => nI (P 0 k_)))), (rm 2, .inl (cI, 5, .inl (fun k_ => nI (P 1 k_)))), (rm 3, .inl (cI, 5, .inl (fun k_ => nI (P 2 k_)))), (rm 4, .inl (cI, 5, .inl (fun k_ => nI (P 3 k_)))), (rm 5, .inl (cI, 5, .inl (fun k_ => nI (P 4 k_)))), (rm 6, .inl (cI, 5, .inl (fun k_ => nI (P 5 k_)))), (rm 10, .inl (cI, 20, .inl (mp c))), (rm 11, .inl (cI, 20, .inl (mp (passN P nq nd (comeF i c nq) 20)))), (rm 18, .inl (cI, 32, .inl vv))]) (lv2 := [(0, .ref mo), (1, .int (nI k)), (2, .int (nI ub)), (3, .int (nI i)), (4, .int (nI o))]) (st2 := []) rfl rfl rfl ?_
              refine g_aload_n hC 0 dX6_share_86 rfl rfl ?_
              refine g_get (C := RX6) (T := TX6) (N := 38) (ci := 6) (v := .ref (rm 18)) hC hcw6 0 rfl rfl 37 (by decide) w4 (fun _ h => h) rfl dX6_share_87 ?_
              refine g_iload_n hC 3 dX6_share_90 rfl rfl ?_
              refine g_aload_n hC 0 dX6_share_91 rfl rfl ?_
              refine g_aload_n hC 0 dX6_share_92 rfl rfl ?_
              refine g_get (C := RX6) (T := TX6) (N := 38) (ci := 6) (v := .ref (rm 11)) hC hcw6 0 rfl rfl 21 (by decide) w3 (fun _ h => h) rfl dX6_share_93 ?_
              refine g_iconst (v := nI 1) hC dX6_share_96 rfl ?_
              refine g_callVip (As := [.ref (rm 11), .int (nI 1)]) (rest := [.int (nI i), .ref (rm 18)]) hC (nI (deedsThat nd (passN P nq nd (comeF i c nq) 20) (nI 1))) (c_X6_deedsThat l D cI cZ mo rm tl pl np nq nd rt rp rq rd cnt na sd rw rx tm tf sm sf (rm 11) (passN P nq nd (comeF i c nq) 20) (nI 1) (by omega)) (cwV 2 hC.1.2.2.2.2 gX6_share_X6_deedsThat rfl rfl rfl dV_X6_deedsThat ⟨Nat.le_of_ble_eq_true rfl, Nat.le_of_ble_eq_true rfl⟩) rfl rfl rfl rfl (Nat.le_of_ble_eq_true rfl) dX6_share_97 ⟨Nat.le_of_ble_eq_true rfl, Nat.le_of_ble_eq_true rfl⟩ [0, 8] rfl rfl ?_
              refine g_callSip (As := [.int (nI (deedsThat nd (passN P nq nd (comeF i c nq) 20) (nI 1)))]) (rest := [.int (nI i), .ref (rm 18)]) hC (nI (pop5 (deedsThat nd (passN P nq nd (comeF i c nq) 20) (nI 1)))) (c_X6_many l D cI cZ (deedsThat nd (passN P nq nd (comeF i c nq) 20) (nI 1)) (bts_le hnd)) (va_cwS 1 hC.1.2.2.2.2 gX6_share_X6_many rfl rfl rfl dS_X6_many ⟨Nat.le_of_ble_eq_true rfl, Nat.le_of_ble_eq_true rfl⟩) rfl rfl (Nat.le_of_ble_eq_true rfl) dX6_share_100 ⟨Nat.le_of_ble_eq_true rfl, Nat.le_of_ble_eq_true rfl⟩ [] rfl rfl ?_
              refine g_iast hC 9 rfl i rfl (by omega) (by decide) [(mo, o6 rm (nI tl) pl (nI np) (nI nq) (nI nd) rt rp rq rd (nI cnt) (nI na) sd rw rx tm tf sm sf), (rm 1, .inl (cI, 5, .inl (fun k_ => nI (P 0 k_)))), (rm 2, .inl (cI, 5, .inl (fun k_ => nI (P 1 k_)))), (rm 3, .inl (cI, 5, .inl (fun k_ => nI (P 2 k_)))), (rm 4, .inl (cI, 5, .inl (fun k_ => nI (P 3 k_)))), (rm 5, .inl (cI, 5, .inl (fun k_ => nI (P 4 k_)))), (rm 6, .inl (cI, 5, .inl (fun k_ => nI (P 5 k_)))), (rm 10, .inl (cI, 20, .inl (mp c))), (rm 11, .inl (cI, 20, .inl (mp (passN P nq nd (comeF i c nq) 20)))), (rm 18, .inl (cI, 32, .inl (upd vv i (nI (pop5 (deedsThat nd (passN P nq nd (comeF i c nq) 20) (nI 1)))))))] rfl dX6_share_103 ?_
              refine g_iinc (v := nI (i + 1)) (lv' := [(0, .ref mo), (1, .int (nI k)), (2, .int (nI ub)), (3, .int (nI (i + 1))), (4, .int (nI o))]) hC 3 [1, 2, 3, 0, 4] dX6_share_104 rfl (nI_add _ 1) (by decide) rfl ?_
              refine g_goto hC 17 dX6_share_107 (by decide) ?_
              refine g_lv [0, 1, 2, 3] (lv2 := [(0, .ref mo), (1, .int (nI k)), (2, .int (nI ub)), (3, .int (nI (i + 1)))]) rfl ?_
              refine ih17 (i + 1) (passN P nq nd (comeF i c nq) 20) (upd vv i (nI (pop5 (deedsThat nd (passN P nq nd (comeF i c nq) 20) (nI 1))))) ?_ ?_ ?_
              · omega
              · intro z hz
                by_cases e : z = i
                · rw [e, upd_self]
                · rw [upd_ne _ _ e]; exact hvv z (by omega)
              · omega
            refine g_aload_n hC 0 dX6_share_43 rfl rfl ?_
            refine g_get (C := RX6) (T := TX6) (N := 38) (ci := 6) (v := .ref (rm 11)) hC hcw6 0 rfl rfl 21 (by decide) w3 (fun _ h => h) rfl dX6_share_44 ?_
            refine g_iconst (v := nI 4) hC dX6_share_47 rfl ?_
            refine g_iload hC 4 dX6_share_48 rfl ?_
            refine g_iadd_n (a := 4) (b := o) hC dX6_share_50 ?_
            refine g_iload_n hC 3 dX6_share_51 rfl rfl ?_
            refine g_iload hC 4 dX6_share_52 rfl ?_
            refine g_callSip (As := [.int (nI i), .int (nI o)]) (rest := [.int (nI (4 + o)), .ref (rm 11)]) hC (bI (hasB i o)) (c_X6_has l D cI cZ i o (by omega) (by omega)) (va_cwS 2 hC.1.2.2.2.2 gX6_share_X6_has rfl rfl rfl dS_X6_has ⟨Nat.le_of_ble_eq_true rfl, Nat.le_of_ble_eq_true rfl⟩) rfl rfl (Nat.le_of_ble_eq_true rfl) dX6_share_54 ⟨Nat.le_of_ble_eq_true rfl, Nat.le_of_ble_eq_true rfl⟩ [] rfl rfl ?_
            refine g_if_eq_b hC 72 dX6_share_57 (by decide) (fun h57t => ?_) (fun h57f => ?_)
            · refine g_iconst (v := nI 2) hC dX6_share_72 rfl ?_
              refine g_iast hC 8 rfl (4 + o) rfl (by omega) (by decide) [(mo, o6 rm (nI tl) pl (nI np) (nI nq) (nI nd) rt rp rq rd (nI cnt) (nI na) sd rw rx tm tf sm sf), (rm 1, .inl (cI, 5, .inl (fun k_ => nI (P 0 k_)))), (rm 2, .inl (cI, 5, .inl (fun k_ => nI (P 1 k_)))), (rm 3, .inl (cI, 5, .inl (fun k_ => nI (P 2 k_)))), (rm 4, .inl (cI, 5, .inl (fun k_ => nI (P 3 k_)))), (rm 5, .inl (cI, 5, .inl (fun k_ => nI (P 4 k_)))), (rm 6, .inl (cI, 5, .inl (fun k_ => nI (P 5 k_)))), (rm 10, .inl (cI, 20, .inl (mp c))), (rm 11, .inl (cI, 20, .inl (upd (mp h) (4 + o) (nI 2)))), (rm 18, .inl (cI, 32, .inl vv))] rfl dX6_share_73 ?_
              refine g_ws (ws2 := [(mo, o6 rm (nI tl) pl (nI np) (nI nq) (nI nd) rt rp rq rd (nI cnt) (nI na) sd rw rx tm tf sm sf), (rm 1, .inl (cI, 5, .inl (fun k_ => nI (P 0 k_)))), (rm 2, .inl (cI, 5, .inl (fun k_ => nI (P 1 k_)))), (rm 3, .inl (cI, 5, .inl (fun k_ => nI (P 2 k_)))), (rm 4, .inl (cI, 5, .inl (fun k_ => nI (P 3 k_)))), (rm 5, .inl (cI, 5, .inl (fun k_ => nI (P 4 k_)))), (rm 6, .inl (cI, 5, .inl (fun k_ => nI (P 5 k_)))), (rm 10, .inl (cI, 20, .inl (mp c))), (rm 11, .inl (cI, 20, .inl (mp (upd h (5 + o) (nI 2))))), (rm 18, .inl (cI, 32, .inl vv))]) (congrArg (fun zz : Nat → Int32 => ([(mo, o6 rm (nI tl) pl (nI np) (nI nq) (nI nd) rt rp rq rd (nI cnt) (nI na) sd rw rx tm tf sm sf), (rm 1, .inl (cI, 5, .inl (fun k_ => nI (P 0 k_)))), (rm 2, .inl (cI, 5, .inl (fun k_ => nI (P 1 k_)))), (rm 3, .inl (cI, 5, .inl (fun k_ => nI (P 2 k_)))), (rm 4, .inl (cI, 5, .inl (fun k_ => nI (P 3 k_)))), (rm 5, .inl (cI, 5, .inl (fun k_ => nI (P 4 k_)))), (rm 6, .inl (cI, 5, .inl (fun k_ => nI (P 5 k_)))), (rm 10, .inl (cI, 20, .inl (mp c))), (rm 11, .inl (cI, 20, .inl zz)), (rm 18, .inl (cI, 32, .inl vv))] : va_W)) (mpu_4 _ _ (by omega))) ?_
              refine g_iinc (v := nI (o + 1)) (lv' := [(0, .ref mo), (1, .int (nI k)), (2, .int (nI ub)), (3, .int (nI i)), (4, .int (nI (o + 1)))]) hC 4 [1, 2, 3, 4, 0] dX6_share_74 rfl (nI_add _ 1) (by decide) rfl ?_
              refine g_goto hC 34 dX6_share_77 (by decide) ?_
              refine ih34 (o + 1) (upd h (5 + o) (nI 2)) ?_ ?_ ?_
              · omega
              · show _ = upd (comeF i c o) (5 + o) (if hasB i o then comeF i c o (5 + o) else nI 2)
                rw [← hh, if_neg h57t]
              · omega
            refine g_aload_n hC 0 dX6_share_60 rfl rfl ?_
            refine g_get (C := RX6) (T := TX6) (N := 38) (ci := 6) (v := .ref (rm 11)) hC hcw6 0 rfl rfl 21 (by decide) w3 (fun _ h => h) rfl dX6_share_61 ?_
            refine g_iconst (v := nI 4) hC dX6_share_64 rfl ?_
            refine g_iload hC 4 dX6_share_65 rfl ?_
            refine g_iadd_n (a := 4) (b := o) hC dX6_share_67 ?_
            refine g_iald hC 8 rfl (4 + o) rfl (by omega) (by decide) dX6_share_68 ?_
            refine g_top (y := h (5 + o)) (mp_4 _ (by omega)) ?_
            refine g_goto hC 73 dX6_share_69 (by decide) ?_
            refine g_iast hC 8 rfl (4 + o) rfl (by omega) (by decide) [(mo, o6 rm (nI tl) pl (nI np) (nI nq) (nI nd) rt rp rq rd (nI cnt) (nI na) sd rw rx tm tf sm sf), (rm 1, .inl (cI, 5, .inl (fun k_ => nI (P 0 k_)))), (rm 2, .inl (cI, 5, .inl (fun k_ => nI (P 1 k_)))), (rm 3, .inl (cI, 5, .inl (fun k_ => nI (P 2 k_)))), (rm 4, .inl (cI, 5, .inl (fun k_ => nI (P 3 k_)))), (rm 5, .inl (cI, 5, .inl (fun k_ => nI (P 4 k_)))), (rm 6, .inl (cI, 5, .inl (fun k_ => nI (P 5 k_)))), (rm 10, .inl (cI, 20, .inl (mp c))), (rm 11, .inl (cI, 20, .inl (upd (mp h) (4 + o) (h (5 + o))))), (rm 18, .inl (cI, 32, .inl vv))] rfl dX6_share_73 ?_
            refine g_ws (ws2 := [(mo, o6 rm (nI tl) pl (nI np) (nI nq) (nI nd) rt rp rq rd (nI cnt) (nI na) sd rw rx tm tf sm sf), (rm 1, .inl (cI, 5, .inl (fun k_ => nI (P 0 k_)))), (rm 2, .inl (cI, 5, .inl (fun k_ => nI (P 1 k_)))), (rm 3, .inl (cI, 5, .inl (fun k_ => nI (P 2 k_)))), (rm 4, .inl (cI, 5, .inl (fun k_ => nI (P 3 k_)))), (rm 5, .inl (cI, 5, .inl (fun k_ => nI (P 4 k_)))), (rm 6, .inl (cI, 5, .inl (fun k_ => nI (P 5 k_)))), (rm 10, .inl (cI, 20, .inl (mp c))), (rm 11, .inl (cI, 20, .inl (mp (upd h (5 + o) (h (5 + o)))))), (rm 18, .inl (cI, 32, .inl vv))]) (congrArg (fun zz : Nat → Int32 => ([(mo, o6 rm (nI tl) pl (nI np) (nI nq) (nI nd) rt rp rq rd (nI cnt) (nI na) sd rw rx tm tf sm sf), (rm 1, .inl (cI, 5, .inl (fun k_ => nI (P 0 k_)))), (rm 2, .inl (cI, 5, .inl (fun k_ => nI (P 1 k_)))), (rm 3, .inl (cI, 5, .inl (fun k_ => nI (P 2 k_)))), (rm 4, .inl (cI, 5, .inl (fun k_ => nI (P 3 k_)))), (rm 5, .inl (cI, 5, .inl (fun k_ => nI (P 4 k_)))), (rm 6, .inl (cI, 5, .inl (fun k_ => nI (P 5 k_)))), (rm 10, .inl (cI, 20, .inl (mp c))), (rm 11, .inl (cI, 20, .inl zz)), (rm 18, .inl (cI, 32, .inl vv))] : va_W)) (mpu_4 _ _ (by omega))) ?_
            refine g_iinc (v := nI (o + 1)) (lv' := [(0, .ref mo), (1, .int (nI k)), (2, .int (nI ub)), (3, .int (nI i)), (4, .int (nI (o + 1)))]) hC 4 [1, 2, 3, 4, 0] dX6_share_74 rfl (nI_add _ 1) (by decide) rfl ?_
            refine g_goto hC 34 dX6_share_77 (by decide) ?_
            refine ih34 (o + 1) (upd h (5 + o) (h (5 + o))) ?_ ?_ ?_
            · omega
            · show _ = upd (comeF i c o) (5 + o) (if hasB i o then comeF i c o (5 + o) else nI 2)
              rw [← hh, if_pos h57f]
            · omega
        refine L34 _ 0 c ?_ ?_ (Nat.lt_succ_self _)
        · omega
        · rfl
    refine L17 _ 0 g va ?_ ?_ (Nat.lt_succ_self _)
    · omega
    · exact fun z h => absurd h (Nat.not_lt_zero _)
  refine g_iconst (v := (-1)) hC dX6_share_13 rfl ?_
  subst hQ
  refine g_iret (v := -1) hC (g, va) hr ?_ rfl dX6_share_14
  rw [shareR, if_neg h10f]

abbrev rm_X6_shop : Room := { frames := 5, cells := 0, slots := 0, locals := 111 }
set_option maxRecDepth 100000 in
set_option maxHeartbeats 16000000 in
theorem c_X6_shop (l : Launch) (D : va_G) (cI cZ : ClassId) (mo : Nat) (rm : Nat → Nat) (tl : Nat) (pl : Int32) (np : Nat) (nq : Nat) (nd : Nat) (rt : Int32) (rp : Int32) (rq : Int32) (rd : Int32) (cnt : Nat) (na : Nat) (sd : Int64) (rw : Int32) (rx : Int32) (tm : Int32) (tf : Int32) (sm : Int32) (sf : Int32) (tx : Nat → Nat) (f7 : Nat → Int32) (f8 : Nat → Int32) (f9 : Nat → Int32) (pu : Nat → Nat) (P : Nat → Nat → Nat) (c : Nat → Int32) (ik : Nat → Int32) (hl : tl ≤ 48) (htx : ∀ k, tx k < 256) : CtI l yX6_shop wsX6_shop rm_X6_shop D cI cZ [.ref mo] [(mo, o6 rm (nI tl) pl (nI np) (nI nq) (nI nd) rt rp rq rd (nI cnt) (nI na) sd rw rx tm tf sm sf), (rm 0, .inl (cI, 48, .inl (fun k_ => nI (tx k_)))), (rm 1, .inl (cI, 5, .inl (fun k_ => nI (P 0 k_)))), (rm 2, .inl (cI, 5, .inl (fun k_ => nI (P 1 k_)))), (rm 3, .inl (cI, 5, .inl (fun k_ => nI (P 2 k_)))), (rm 4, .inl (cI, 5, .inl (fun k_ => nI (P 3 k_)))), (rm 5, .inl (cI, 5, .inl (fun k_ => nI (P 4 k_)))), (rm 6, .inl (cI, 5, .inl (fun k_ => nI (P 5 k_)))), (rm 10, .inl (cI, 20, .inl (mp c))), (rm 14, .inl (cZ, 2, .inl ik)), (rm 7, .inl (cI, 3, .inl f7)), (rm 8, .inl (cI, 15, .inl f8)), (rm 9, .inl (cI, 15, .inl f9))] (fun (r : Int32) (z : Int32 × Nat × Nat × Nat × Nat × (Nat → Int32) × (Nat → Int32) × (Nat → Int32) × Nat × Nat × Nat × Nat × (Nat → Nat) × (Nat → Nat → Nat) × (Nat → Int32) × (Nat → Int32)) => match z with | (rt2, cur2, ap2, aq2, ad2, f72, f82, f92, np2, nq2, nd2, cnt2, pu2, P2, c2, ik2) => ((rdA tx tl pu P).1 = (-9) → r = nI (100 * np2 + 10 * nq2 + nd2) ∧ (np2, nq2, nd2, pu2, P2) = (rdA tx tl pu P).2.2.2 ∧ c2 = beginF np2 (rdA tx tl pu P).2.1 pu2 ∧ cnt2 = 0 ∧ ik2 0 = nI 0 ∧ ik2 1 = nI 0) ∧ (¬ (rdA tx tl pu P).1 = (-9) → r = (-3) ∧ (np2, nq2, nd2, pu2, P2, c2, cnt2, ik2) = (np, nq, nd, pu, P, c, cnt, ik))) (fun (z : Int32 × Nat × Nat × Nat × Nat × (Nat → Int32) × (Nat → Int32) × (Nat → Int32) × Nat × Nat × Nat × Nat × (Nat → Nat) × (Nat → Nat → Nat) × (Nat → Int32) × (Nat → Int32)) => match z with | (rt2, cur2, ap2, aq2, ad2, f72, f82, f92, np2, nq2, nd2, cnt2, pu2, P2, c2, ik2) => [(mo, o6 rm (nI tl) (nI cur2) (nI np2) (nI nq2) (nI nd2) rt2 (nI ap2) (nI aq2) (nI ad2) (nI cnt2) (nI na) sd rw rx tm tf sm sf), (rm 0, .inl (cI, 48, .inl (fun k_ => nI (tx k_)))), (rm 1, .inl (cI, 5, .inl (fun k_ => nI (P2 0 k_)))), (rm 2, .inl (cI, 5, .inl (fun k_ => nI (P2 1 k_)))), (rm 3, .inl (cI, 5, .inl (fun k_ => nI (P2 2 k_)))), (rm 4, .inl (cI, 5, .inl (fun k_ => nI (P2 3 k_)))), (rm 5, .inl (cI, 5, .inl (fun k_ => nI (P2 4 k_)))), (rm 6, .inl (cI, 5, .inl (fun k_ => nI (P2 5 k_)))), (rm 10, .inl (cI, 20, .inl (mp c2))), (rm 14, .inl (cZ, 2, .inl ik2)), (rm 7, .inl (cI, 3, .inl f72)), (rm 8, .inl (cI, 15, .inl f82)), (rm 9, .inl (cI, 15, .inl f92))]) 0 0 := by
  refine g_startI (ret := (some .int)) (own := RX6) (lv0 := [(0, .ref mo)]) (by decide) rfl rfl (Nat.le_of_ble_eq_true rfl) rfl ?_
  intro p e s m args below meth cd A Q hin hr hQ hC
  have hcw6 : ∀ w ∈ wsX60, w ∈ wsX6_shop := fun _ h => List.mem_cons_of_mem _ (List.mem_append_right _ h)
  have w1 := hC.1.2.2.2.2 (.fieldLink "PluckBrokerModel" 68 "PluckBrokerModel" "thrown" "I") (List.mem_of_getElem? (i := 1) rfl)
  have w2 := hC.1.2.2.2.2 (.fieldLink "PluckBrokerModel" 97 "PluckBrokerModel" "readPersons" "I") (List.mem_of_getElem? (i := 2) rfl)
  have w3 := hC.1.2.2.2.2 (.fieldLink "PluckBrokerModel" 72 "PluckBrokerModel" "persons" "I") (List.mem_of_getElem? (i := 3) rfl)
  have w4 := hC.1.2.2.2.2 (.fieldLink "PluckBrokerModel" 100 "PluckBrokerModel" "readQualities" "I") (List.mem_of_getElem? (i := 4) rfl)
  have w5 := hC.1.2.2.2.2 (.fieldLink "PluckBrokerModel" 79 "PluckBrokerModel" "qualities" "I") (List.mem_of_getElem? (i := 5) rfl)
  have w6 := hC.1.2.2.2.2 (.fieldLink "PluckBrokerModel" 103 "PluckBrokerModel" "readDeeds" "I") (List.mem_of_getElem? (i := 6) rfl)
  have w7 := hC.1.2.2.2.2 (.fieldLink "PluckBrokerModel" 82 "PluckBrokerModel" "deeds" "I") (List.mem_of_getElem? (i := 7) rfl)
  have w8 := hC.1.2.2.2.2 (.fieldLink "PluckBrokerModel" 40 "PluckBrokerModel" "page" "[I") (List.mem_of_getElem? (i := 8) rfl)
  have w9 := hC.1.2.2.2.2 (.fieldLink "PluckBrokerModel" 116 "PluckBrokerModel" "readTill" "I") (List.mem_of_getElem? (i := 9) rfl)
  have w10 := hC.1.2.2.2.2 (.fieldLink "PluckBrokerModel" 31 "PluckBrokerModel" "readPerson" "[I") (List.mem_of_getElem? (i := 10) rfl)
  have w11 := hC.1.2.2.2.2 (.fieldLink "PluckBrokerModel" 13 "PluckBrokerModel" "owner" "[I") (List.mem_of_getElem? (i := 11) rfl)
  have w12 := hC.1.2.2.2.2 (.fieldLink "PluckBrokerModel" 34 "PluckBrokerModel" "readQuality" "[I") (List.mem_of_getElem? (i := 12) rfl)
  have w13 := hC.1.2.2.2.2 (.fieldLink "PluckBrokerModel" 16 "PluckBrokerModel" "worth" "[I") (List.mem_of_getElem? (i := 13) rfl)
  have w14 := hC.1.2.2.2.2 (.fieldLink "PluckBrokerModel" 19 "PluckBrokerModel" "kind" "[I") (List.mem_of_getElem? (i := 14) rfl)
  have w15 := hC.1.2.2.2.2 (.fieldLink "PluckBrokerModel" 22 "PluckBrokerModel" "wants" "[I") (List.mem_of_getElem? (i := 15) rfl)
  have w16 := hC.1.2.2.2.2 (.fieldLink "PluckBrokerModel" 37 "PluckBrokerModel" "readDeed" "[I") (List.mem_of_getElem? (i := 16) rfl)
  have w17 := hC.1.2.2.2.2 (.fieldLink "PluckBrokerModel" 25 "PluckBrokerModel" "when" "[I") (List.mem_of_getElem? (i := 17) rfl)
  have w18 := hC.1.2.2.2.2 (.fieldLink "PluckBrokerModel" 28 "PluckBrokerModel" "pays" "[I") (List.mem_of_getElem? (i := 18) rfl)
  have w19 := hC.1.2.2.2.2 (.fieldLink "PluckBrokerModel" 126 "PluckBrokerModel" "acts" "I") (List.mem_of_getElem? (i := 19) rfl)
  have w20 := hC.1.2.2.2.2 (.fieldLink "PluckBrokerModel" 52 "PluckBrokerModel" "isKept" "[Z") (List.mem_of_getElem? (i := 20) rfl)
  refine g_aload_n hC 0 dX6_shop_0 rfl rfl ?_
  refine g_iconst (v := nI 0) hC dX6_shop_1 rfl ?_
  refine g_put (C := RX6) (T := TX6) (N := 38) (ci := 6) (v := .int (nI 0)) hC hcw6 tyX6 tyX6_ok nmX6 0 rfl rfl 0 (by decide) w1 (fun _ h => h) rfl (tyX6_ok 0 (by decide)) rfl rfl (Nat.le_of_ble_eq_true rfl) [(mo, o6 rm (nI tl) pl (nI np) (nI nq) (nI nd) rt rp rq rd (nI cnt) (nI na) sd rw rx tm tf sm sf), (rm 0, .inl (cI, 48, .inl (fun k_ => nI (tx k_)))), (rm 1, .inl (cI, 5, .inl (fun k_ => nI (P 0 k_)))), (rm 2, .inl (cI, 5, .inl (fun k_ => nI (P 1 k_)))), (rm 3, .inl (cI, 5, .inl (fun k_ => nI (P 2 k_)))), (rm 4, .inl (cI, 5, .inl (fun k_ => nI (P 3 k_)))), (rm 5, .inl (cI, 5, .inl (fun k_ => nI (P 4 k_)))), (rm 6, .inl (cI, 5, .inl (fun k_ => nI (P 5 k_)))), (rm 10, .inl (cI, 20, .inl (mp c))), (rm 14, .inl (cZ, 2, .inl ik)), (rm 7, .inl (cI, 3, .inl f7)), (rm 8, .inl (cI, 15, .inl f8)), (rm 9, .inl (cI, 15, .inl f9))] rfl dX6_shop_2 ?_
  refine g_aload_n hC 0 dX6_shop_5 rfl rfl ?_
  refine g_callVi (As := []) (rest := []) hC (c_X6_readShop l D cI cZ mo rm tl pl np nq nd rt rp rq rd cnt na sd rw rx tm tf sm sf tx f7 f8 f9 pu P (by first | assumption | omega) (by first | assumption | omega)) (cwV 0 hC.1.2.2.2.2 gX6_shop_X6_readShop rfl rfl rfl dV_X6_readShop ⟨Nat.le_of_ble_eq_true rfl, Nat.le_of_ble_eq_true rfl⟩) rfl rfl rfl rfl (Nat.le_of_ble_eq_true rfl) dX6_shop_6 ⟨Nat.le_of_ble_eq_true rfl, Nat.le_of_ble_eq_true rfl⟩ [0, 1, 10, 11, 12] [2, 3, 4, 5, 6, 7, 8, 9] [8, 9, 0, 1, 2, 3, 4, 5, 6, 7, 10, 11, 12] (fun (z : Int32 × Nat × Nat × Nat × Nat × (Nat → Nat) × (Nat → Nat → Nat) × (Nat → Int32) × (Nat → Int32) × (Nat → Int32)) => match z with | (rt2_1, cur2_2, ap2_3, aq2_4, ad2_5, pu2_6, P2_7, f72_8, f82_9, f92_10) => [(mo, o6 rm (nI tl) (nI cur2_2) (nI np) (nI nq) (nI nd) rt2_1 (nI ap2_3) (nI aq2_4) (nI ad2_5) (nI cnt) (nI na) sd rw rx tm tf sm sf), (rm 0, .inl (cI, 48, .inl (fun k_ => nI (tx k_)))), (rm 1, .inl (cI, 5, .inl (fun k_ => nI (P 0 k_)))), (rm 2, .inl (cI, 5, .inl (fun k_ => nI (P 1 k_)))), (rm 3, .inl (cI, 5, .inl (fun k_ => nI (P 2 k_)))), (rm 4, .inl (cI, 5, .inl (fun k_ => nI (P 3 k_)))), (rm 5, .inl (cI, 5, .inl (fun k_ => nI (P 4 k_)))), (rm 6, .inl (cI, 5, .inl (fun k_ => nI (P 5 k_)))), (rm 10, .inl (cI, 20, .inl (mp c))), (rm 14, .inl (cZ, 2, .inl ik)), (rm 7, .inl (cI, 3, .inl f72_8)), (rm 8, .inl (cI, 15, .inl f82_9)), (rm 9, .inl (cI, 15, .inl f92_10))]) rfl rfl rfl (fun _ => rfl) (fun r6 z6 hp6 => ?_)
  obtain ⟨rt2_1, cur2_2, ap2_3, aq2_4, ad2_5, pu2_6, P2_7, f72_8, f82_9, f92_10⟩ := z6
  try dsimp only at hp6
  refine g_is (ws2 := [(mo, o6 rm (nI tl) (nI cur2_2) (nI np) (nI nq) (nI nd) rt2_1 (nI ap2_3) (nI aq2_4) (nI ad2_5) (nI cnt) (nI na) sd rw rx tm tf sm sf), (rm 0, .inl (cI, 48, .inl (fun k_ => nI (tx k_)))), (rm 1, .inl (cI, 5, .inl (fun k_ => nI (P 0 k_)))), (rm 2, .inl (cI, 5, .inl (fun k_ => nI (P 1 k_)))), (rm 3, .inl (cI, 5, .inl (fun k_ => nI (P 2 k_)))), (rm 4, .inl (cI, 5, .inl (fun k_ => nI (P 3 k_)))), (rm 5, .inl (cI, 5, .inl (fun k_ => nI (P 4 k_)))), (rm 6, .inl (cI, 5, .inl (fun k_ => nI (P 5 k_)))), (rm 10, .inl (cI, 20, .inl (mp c))), (rm 14, .inl (cZ, 2, .inl ik)), (rm 7, .inl (cI, 3, .inl f72_8)), (rm 8, .inl (cI, 15, .inl f82_9)), (rm 9, .inl (cI, 15, .inl f92_10))]) (lv2 := [(0, .ref mo)]) (st2 := [.int r6]) rfl rfl rfl ?_
  refine g_bipush (v := (-9)) hC dX6_shop_9 (by decide +kernel) ?_
  refine g_icmp_eq hC 17 dX6_shop_11 (by decide) (fun h11t => ?_) (fun h11f => ?_)
  · have hy : (rdA tx tl pu P).1 = (-9) := hp6.1.symm.trans h11t
    obtain ⟨PU, e_PU⟩ : ∃ x, x = pu2_6 := ⟨_, rfl⟩
    subst e_PU
    obtain ⟨PP, e_PP⟩ : ∃ x, x = P2_7 := ⟨_, rfl⟩
    subst e_PP
    obtain ⟨n1, e_n1⟩ : ∃ x, x = ap2_3 := ⟨_, rfl⟩
    subst e_n1
    obtain ⟨n2, e_n2⟩ : ∃ x, x = aq2_4 := ⟨_, rfl⟩
    subst e_n2
    obtain ⟨n3, e_n3⟩ : ∃ x, x = ad2_5 := ⟨_, rfl⟩
    subst e_n3
    obtain ⟨e7, e_e7⟩ : ∃ x, x = f72_8 := ⟨_, rfl⟩
    subst e_e7
    obtain ⟨e8, e_e8⟩ : ∃ x, x = f82_9 := ⟨_, rfl⟩
    subst e_e8
    obtain ⟨e9, e_e9⟩ : ∃ x, x = f92_10 := ⟨_, rfl⟩
    subst e_e9
    obtain ⟨cu, e_cu⟩ : ∃ x, x = cur2_2 := ⟨_, rfl⟩
    subst e_cu
    obtain ⟨hrt, hS, hR⟩ := hp6.2 hy
    obtain ⟨v9, hv9⟩ : ∃ x, x = (rdA tx tl pu P).2.1 := ⟨_, rfl⟩
    have hrd : (v9, cu, n1, n2, n3, PU, PP) = (rdA tx tl pu P).2 := Prod.ext hv9 hS
    obtain ⟨hv5, hW2, hK2⟩ := rdA_ok tx tl pu P hrd
    obtain ⟨⟨hn1, hn2, hn3⟩, -, -⟩ := id hW2
    have efld : rt2_1 = nI v9 := by rw [hv9]; exact hrt
    refine g_ws (ws2 := [(mo, o6 rm (nI tl) (nI cu) (nI np) (nI nq) (nI nd) (nI v9) (nI n1) (nI n2) (nI n3) (nI cnt) (nI na) sd rw rx tm tf sm sf), (rm 0, .inl (cI, 48, .inl (fun k_ => nI (tx k_)))), (rm 1, .inl (cI, 5, .inl (fun k_ => nI (P 0 k_)))), (rm 2, .inl (cI, 5, .inl (fun k_ => nI (P 1 k_)))), (rm 3, .inl (cI, 5, .inl (fun k_ => nI (P 2 k_)))), (rm 4, .inl (cI, 5, .inl (fun k_ => nI (P 3 k_)))), (rm 5, .inl (cI, 5, .inl (fun k_ => nI (P 4 k_)))), (rm 6, .inl (cI, 5, .inl (fun k_ => nI (P 5 k_)))), (rm 10, .inl (cI, 20, .inl (mp c))), (rm 14, .inl (cZ, 2, .inl ik)), (rm 7, .inl (cI, 3, .inl e7)), (rm 8, .inl (cI, 15, .inl e8)), (rm 9, .inl (cI, 15, .inl e9))]) (congrArg (fun zz : Int32 => ([(mo, o6 rm (nI tl) (nI cu) (nI np) (nI nq) (nI nd) zz (nI n1) (nI n2) (nI n3) (nI cnt) (nI na) sd rw rx tm tf sm sf), (rm 0, .inl (cI, 48, .inl (fun k_ => nI (tx k_)))), (rm 1, .inl (cI, 5, .inl (fun k_ => nI (P 0 k_)))), (rm 2, .inl (cI, 5, .inl (fun k_ => nI (P 1 k_)))), (rm 3, .inl (cI, 5, .inl (fun k_ => nI (P 2 k_)))), (rm 4, .inl (cI, 5, .inl (fun k_ => nI (P 3 k_)))), (rm 5, .inl (cI, 5, .inl (fun k_ => nI (P 4 k_)))), (rm 6, .inl (cI, 5, .inl (fun k_ => nI (P 5 k_)))), (rm 10, .inl (cI, 20, .inl (mp c))), (rm 14, .inl (cZ, 2, .inl ik)), (rm 7, .inl (cI, 3, .inl e7)), (rm 8, .inl (cI, 15, .inl e8)), (rm 9, .inl (cI, 15, .inl e9))] : va_W)) efld) ?_
    refine g_aload_n hC 0 dX6_shop_17 rfl rfl ?_
    refine g_aload_n hC 0 dX6_shop_18 rfl rfl ?_
    refine g_get (C := RX6) (T := TX6) (N := 38) (ci := 6) (v := .int (nI n1)) hC hcw6 0 rfl rfl 14 (by decide) w2 (fun _ h => h) rfl dX6_shop_19 ?_
    refine g_put (C := RX6) (T := TX6) (N := 38) (ci := 6) (v := .int (nI n1)) hC hcw6 tyX6 tyX6_ok nmX6 0 rfl rfl 4 (by decide) w3 (fun _ h => h) rfl (tyX6_ok 4 (by decide)) rfl rfl (Nat.le_of_ble_eq_true rfl) [(mo, o6 rm (nI tl) (nI cu) (nI n1) (nI nq) (nI nd) (nI v9) (nI n1) (nI n2) (nI n3) (nI cnt) (nI na) sd rw rx tm tf sm sf), (rm 0, .inl (cI, 48, .inl (fun k_ => nI (tx k_)))), (rm 1, .inl (cI, 5, .inl (fun k_ => nI (P 0 k_)))), (rm 2, .inl (cI, 5, .inl (fun k_ => nI (P 1 k_)))), (rm 3, .inl (cI, 5, .inl (fun k_ => nI (P 2 k_)))), (rm 4, .inl (cI, 5, .inl (fun k_ => nI (P 3 k_)))), (rm 5, .inl (cI, 5, .inl (fun k_ => nI (P 4 k_)))), (rm 6, .inl (cI, 5, .inl (fun k_ => nI (P 5 k_)))), (rm 10, .inl (cI, 20, .inl (mp c))), (rm 14, .inl (cZ, 2, .inl ik)), (rm 7, .inl (cI, 3, .inl e7)), (rm 8, .inl (cI, 15, .inl e8)), (rm 9, .inl (cI, 15, .inl e9))] rfl dX6_shop_22 ?_
    refine g_aload_n hC 0 dX6_shop_25 rfl rfl ?_
    refine g_aload_n hC 0 dX6_shop_26 rfl rfl ?_
    refine g_get (C := RX6) (T := TX6) (N := 38) (ci := 6) (v := .int (nI n2)) hC hcw6 0 rfl rfl 16 (by decide) w4 (fun _ h => h) rfl dX6_shop_27 ?_
    refine g_put (C := RX6) (T := TX6) (N := 38) (ci := 6) (v := .int (nI n2)) hC hcw6 tyX6 tyX6_ok nmX6 0 rfl rfl 5 (by decide) w5 (fun _ h => h) rfl (tyX6_ok 5 (by decide)) rfl rfl (Nat.le_of_ble_eq_true rfl) [(mo, o6 rm (nI tl) (nI cu) (nI n1) (nI n2) (nI nd) (nI v9) (nI n1) (nI n2) (nI n3) (nI cnt) (nI na) sd rw rx tm tf sm sf), (rm 0, .inl (cI, 48, .inl (fun k_ => nI (tx k_)))), (rm 1, .inl (cI, 5, .inl (fun k_ => nI (P 0 k_)))), (rm 2, .inl (cI, 5, .inl (fun k_ => nI (P 1 k_)))), (rm 3, .inl (cI, 5, .inl (fun k_ => nI (P 2 k_)))), (rm 4, .inl (cI, 5, .inl (fun k_ => nI (P 3 k_)))), (rm 5, .inl (cI, 5, .inl (fun k_ => nI (P 4 k_)))), (rm 6, .inl (cI, 5, .inl (fun k_ => nI (P 5 k_)))), (rm 10, .inl (cI, 20, .inl (mp c))), (rm 14, .inl (cZ, 2, .inl ik)), (rm 7, .inl (cI, 3, .inl e7)), (rm 8, .inl (cI, 15, .inl e8)), (rm 9, .inl (cI, 15, .inl e9))] rfl dX6_shop_30 ?_
    refine g_aload_n hC 0 dX6_shop_33 rfl rfl ?_
    refine g_aload_n hC 0 dX6_shop_34 rfl rfl ?_
    refine g_get (C := RX6) (T := TX6) (N := 38) (ci := 6) (v := .int (nI n3)) hC hcw6 0 rfl rfl 18 (by decide) w6 (fun _ h => h) rfl dX6_shop_35 ?_
    refine g_put (C := RX6) (T := TX6) (N := 38) (ci := 6) (v := .int (nI n3)) hC hcw6 tyX6 tyX6_ok nmX6 0 rfl rfl 9 (by decide) w7 (fun _ h => h) rfl (tyX6_ok 9 (by decide)) rfl rfl (Nat.le_of_ble_eq_true rfl) [(mo, o6 rm (nI tl) (nI cu) (nI n1) (nI n2) (nI n3) (nI v9) (nI n1) (nI n2) (nI n3) (nI cnt) (nI na) sd rw rx tm tf sm sf), (rm 0, .inl (cI, 48, .inl (fun k_ => nI (tx k_)))), (rm 1, .inl (cI, 5, .inl (fun k_ => nI (P 0 k_)))), (rm 2, .inl (cI, 5, .inl (fun k_ => nI (P 1 k_)))), (rm 3, .inl (cI, 5, .inl (fun k_ => nI (P 2 k_)))), (rm 4, .inl (cI, 5, .inl (fun k_ => nI (P 3 k_)))), (rm 5, .inl (cI, 5, .inl (fun k_ => nI (P 4 k_)))), (rm 6, .inl (cI, 5, .inl (fun k_ => nI (P 5 k_)))), (rm 10, .inl (cI, 20, .inl (mp c))), (rm 14, .inl (cZ, 2, .inl ik)), (rm 7, .inl (cI, 3, .inl e7)), (rm 8, .inl (cI, 15, .inl e8)), (rm 9, .inl (cI, 15, .inl e9))] rfl dX6_shop_38 ?_
    refine g_iconst (v := nI 0) hC dX6_shop_41 rfl ?_
    refine g_istore_n (lv' := [(0, .ref mo), (1, .int (nI 0))]) hC [1, 0] dX6_shop_42 rfl (by decide) rfl ?_
    have L43 : ∀ (n : Nat) (i : Nat) (pg : Nat → Int32), (i ≤ 20) → (∀ j, j < i → pg j = nI 0) → 20 - i < n → G p l e rm_X6_shop s m args below meth cd D A 0 0 Q 2 [(mo, o6 rm (nI tl) (nI cu) (nI n1) (nI n2) (nI n3) (nI v9) (nI n1) (nI n2) (nI n3) (nI cnt) (nI na) sd rw rx tm tf sm sf), (rm 0, .inl (cI, 48, .inl (fun k_ => nI (tx k_)))), (rm 1, .inl (cI, 5, .inl (fun k_ => nI (P 0 k_)))), (rm 2, .inl (cI, 5, .inl (fun k_ => nI (P 1 k_)))), (rm 3, .inl (cI, 5, .inl (fun k_ => nI (P 2 k_)))), (rm 4, .inl (cI, 5, .inl (fun k_ => nI (P 3 k_)))), (rm 5, .inl (cI, 5, .inl (fun k_ => nI (P 4 k_)))), (rm 6, .inl (cI, 5, .inl (fun k_ => nI (P 5 k_)))), (rm 10, .inl (cI, 20, .inl pg)), (rm 14, .inl (cZ, 2, .inl ik)), (rm 7, .inl (cI, 3, .inl e7)), (rm 8, .inl (cI, 15, .inl e8)), (rm 9, .inl (cI, 15, .inl e9))] 43 [(0, .ref mo), (1, .int (nI i))] [] := by
      intro n
      induction n with
      | zero => intro i pg hi hpg hn; exact absurd hn (Nat.not_lt_zero _)
      | succ n ih43 =>
        intro i pg hi hpg hn
        refine g_iload_n hC 1 dX6_shop_43 rfl rfl ?_
        refine g_bipush (v := nI 20) hC dX6_shop_44 (by decide +kernel) ?_
        refine g_icmp_ge_n (a := i) (b := 20) hC (by omega) (by omega) 62 dX6_shop_46 (by decide) (fun h46t => ?_) (fun h46f => ?_)
        · have ei : i = 20 := by omega
          rw [ei] at hpg
          refine g_aload_n hC 0 dX6_shop_62 rfl rfl ?_
          refine g_get (C := RX6) (T := TX6) (N := 38) (ci := 6) (v := .ref (rm 10)) hC hcw6 0 rfl rfl 20 (by decide) w8 (fun _ h => h) rfl dX6_shop_63 ?_
          refine g_iconst (v := nI 0) hC dX6_shop_66 rfl ?_
          refine g_iconst (v := nI 4) hC dX6_shop_67 rfl ?_
          refine g_aload_n hC 0 dX6_shop_68 rfl rfl ?_
          refine g_get (C := RX6) (T := TX6) (N := 38) (ci := 6) (v := .int (nI v9)) hC hcw6 0 rfl rfl 13 (by decide) w9 (fun _ h => h) rfl dX6_shop_69 ?_
          refine g_imul_n (a := 4) (b := v9) hC dX6_shop_72 ?_
          refine g_iast hC 8 rfl 0 rfl (by omega) (by decide) [(mo, o6 rm (nI tl) (nI cu) (nI n1) (nI n2) (nI n3) (nI v9) (nI n1) (nI n2) (nI n3) (nI cnt) (nI na) sd rw rx tm tf sm sf), (rm 0, .inl (cI, 48, .inl (fun k_ => nI (tx k_)))), (rm 1, .inl (cI, 5, .inl (fun k_ => nI (P 0 k_)))), (rm 2, .inl (cI, 5, .inl (fun k_ => nI (P 1 k_)))), (rm 3, .inl (cI, 5, .inl (fun k_ => nI (P 2 k_)))), (rm 4, .inl (cI, 5, .inl (fun k_ => nI (P 3 k_)))), (rm 5, .inl (cI, 5, .inl (fun k_ => nI (P 4 k_)))), (rm 6, .inl (cI, 5, .inl (fun k_ => nI (P 5 k_)))), (rm 10, .inl (cI, 20, .inl (upd pg 0 (nI (4 * v9))))), (rm 14, .inl (cZ, 2, .inl ik)), (rm 7, .inl (cI, 3, .inl e7)), (rm 8, .inl (cI, 15, .inl e8)), (rm 9, .inl (cI, 15, .inl e9))] rfl dX6_shop_73 ?_
          refine g_iconst (v := nI 0) hC dX6_shop_74 rfl ?_
          refine g_istore_n (lv' := [(0, .ref mo), (1, .int (nI 0))]) hC [1, 0] dX6_shop_75 rfl (by decide) rfl ?_
          have L76 : ∀ (n : Nat) (p2 : Nat) (pg2 : Nat → Int32), (p2 ≤ n1) → (∀ j, j < 20 → pg2 j = if j = 0 then nI (4 * v9) else if 1 ≤ j ∧ j < 1 + p2 then nI (PU (j - 1)) else nI 0) → n1 - p2 < n → G p l e rm_X6_shop s m args below meth cd D A 0 0 Q 2 [(mo, o6 rm (nI tl) (nI cu) (nI n1) (nI n2) (nI n3) (nI v9) (nI n1) (nI n2) (nI n3) (nI cnt) (nI na) sd rw rx tm tf sm sf), (rm 0, .inl (cI, 48, .inl (fun k_ => nI (tx k_)))), (rm 1, .inl (cI, 5, .inl (fun k_ => nI (P 0 k_)))), (rm 2, .inl (cI, 5, .inl (fun k_ => nI (P 1 k_)))), (rm 3, .inl (cI, 5, .inl (fun k_ => nI (P 2 k_)))), (rm 4, .inl (cI, 5, .inl (fun k_ => nI (P 3 k_)))), (rm 5, .inl (cI, 5, .inl (fun k_ => nI (P 4 k_)))), (rm 6, .inl (cI, 5, .inl (fun k_ => nI (P 5 k_)))), (rm 10, .inl (cI, 20, .inl pg2)), (rm 14, .inl (cZ, 2, .inl ik)), (rm 7, .inl (cI, 3, .inl e7)), (rm 8, .inl (cI, 15, .inl e8)), (rm 9, .inl (cI, 15, .inl e9))] 76 [(0, .ref mo), (1, .int (nI p2))] [] := by
            intro n
            induction n with
            | zero => intro p2 pg2 hp2 hpg2 hn; exact absurd hn (Nat.not_lt_zero _)
            | succ n ih76 =>
              intro p2 pg2 hp2 hpg2 hn
              refine g_iload_n hC 1 dX6_shop_76 rfl rfl ?_
              refine g_aload_n hC 0 dX6_shop_77 rfl rfl ?_
              refine g_get (C := RX6) (T := TX6) (N := 38) (ci := 6) (v := .int (nI n1)) hC hcw6 0 rfl rfl 4 (by decide) w3 (fun _ h => h) rfl dX6_shop_78 ?_
              refine g_icmp_ge_n (a := p2) (b := n1) hC (by omega) (by omega) 104 dX6_shop_81 (by decide) (fun h81t => ?_) (fun h81f => ?_)
              · have ep : p2 = n1 := by omega
                rw [ep] at hpg2
                refine g_arr (f2 := (mp (beginF n1 v9 PU))) 8 rfl (fun j hj => by rw [hpg2 j hj, begin_mp (by omega) PU hj]) [(mo, o6 rm (nI tl) (nI cu) (nI n1) (nI n2) (nI n3) (nI v9) (nI n1) (nI n2) (nI n3) (nI cnt) (nI na) sd rw rx tm tf sm sf), (rm 0, .inl (cI, 48, .inl (fun k_ => nI (tx k_)))), (rm 1, .inl (cI, 5, .inl (fun k_ => nI (P 0 k_)))), (rm 2, .inl (cI, 5, .inl (fun k_ => nI (P 1 k_)))), (rm 3, .inl (cI, 5, .inl (fun k_ => nI (P 2 k_)))), (rm 4, .inl (cI, 5, .inl (fun k_ => nI (P 3 k_)))), (rm 5, .inl (cI, 5, .inl (fun k_ => nI (P 4 k_)))), (rm 6, .inl (cI, 5, .inl (fun k_ => nI (P 5 k_)))), (rm 10, .inl (cI, 20, .inl (mp (beginF n1 v9 PU)))), (rm 14, .inl (cZ, 2, .inl ik)), (rm 7, .inl (cI, 3, .inl e7)), (rm 8, .inl (cI, 15, .inl e8)), (rm 9, .inl (cI, 15, .inl e9))] rfl ?_
                refine g_iconst (v := nI 0) hC dX6_shop_104 rfl ?_
                refine g_istore_n (lv' := [(0, .ref mo), (1, .int (nI 0))]) hC [1, 0] dX6_shop_105 rfl (by decide) rfl ?_
                have L106 : ∀ (n : Nat) (q1 : Nat) (y1 : Nat → Int32) (y2 : Nat → Int32) (y3 : Nat → Int32), (q1 ≤ n2) → (∀ k, y1 k = (if k < q1 then nI (PP 0 k) else nI (P 0 k)) ∧ y2 k = (if k < q1 then nI (PP 1 k) else nI (P 1 k)) ∧ y3 k = (if k < q1 then nI (PP 2 k) else nI (P 2 k))) → n2 - q1 < n → G p l e rm_X6_shop s m args below meth cd D A 0 0 Q 2 [(mo, o6 rm (nI tl) (nI cu) (nI n1) (nI n2) (nI n3) (nI v9) (nI n1) (nI n2) (nI n3) (nI cnt) (nI na) sd rw rx tm tf sm sf), (rm 0, .inl (cI, 48, .inl (fun k_ => nI (tx k_)))), (rm 1, .inl (cI, 5, .inl y1)), (rm 2, .inl (cI, 5, .inl y2)), (rm 3, .inl (cI, 5, .inl y3)), (rm 4, .inl (cI, 5, .inl (fun k_ => nI (P 3 k_)))), (rm 5, .inl (cI, 5, .inl (fun k_ => nI (P 4 k_)))), (rm 6, .inl (cI, 5, .inl (fun k_ => nI (P 5 k_)))), (rm 10, .inl (cI, 20, .inl (mp (beginF n1 v9 PU)))), (rm 14, .inl (cZ, 2, .inl ik)), (rm 7, .inl (cI, 3, .inl e7)), (rm 8, .inl (cI, 15, .inl e8)), (rm 9, .inl (cI, 15, .inl e9))] 106 [(0, .ref mo), (1, .int (nI q1))] [] := by
                  intro n
                  induction n with
                  | zero => intro q1 y1 y2 y3 hq hw hn; exact absurd hn (Nat.not_lt_zero _)
                  | succ n ih106 =>
                    intro q1 y1 y2 y3 hq hw hn
                    refine g_iload_n hC 1 dX6_shop_106 rfl rfl ?_
                    refine g_aload_n hC 0 dX6_shop_107 rfl rfl ?_
                    refine g_get (C := RX6) (T := TX6) (N := 38) (ci := 6) (v := .int (nI n2)) hC hcw6 0 rfl rfl 5 (by decide) w5 (fun _ h => h) rfl dX6_shop_108 ?_
                    refine g_icmp_ge_n (a := q1) (b := n2) hC (by omega) (by omega) 166 dX6_shop_111 (by decide) (fun h111t => ?_) (fun h111f => ?_)
                    · have ev0 : q1 = n2 := by omega
                      rw [ev0] at hw
                      refine g_arr (f2 := (fun k_ => nI (PP 0 k_))) 2 rfl (fun j hj => ?_) [(mo, o6 rm (nI tl) (nI cu) (nI n1) (nI n2) (nI n3) (nI v9) (nI n1) (nI n2) (nI n3) (nI cnt) (nI na) sd rw rx tm tf sm sf), (rm 0, .inl (cI, 48, .inl (fun k_ => nI (tx k_)))), (rm 1, .inl (cI, 5, .inl (fun k_ => nI (PP 0 k_)))), (rm 2, .inl (cI, 5, .inl y2)), (rm 3, .inl (cI, 5, .inl y3)), (rm 4, .inl (cI, 5, .inl (fun k_ => nI (P 3 k_)))), (rm 5, .inl (cI, 5, .inl (fun k_ => nI (P 4 k_)))), (rm 6, .inl (cI, 5, .inl (fun k_ => nI (P 5 k_)))), (rm 10, .inl (cI, 20, .inl (mp (beginF n1 v9 PU)))), (rm 14, .inl (cZ, 2, .inl ik)), (rm 7, .inl (cI, 3, .inl e7)), (rm 8, .inl (cI, 15, .inl e8)), (rm 9, .inl (cI, 15, .inl e9))] rfl ?_
                      · show y1 j = nI (PP 0 j)
                        rw [(hw j).1]
                        split
                        · rfl
                        · rw [hK2 0 j (by omega)]
                      refine g_arr (f2 := (fun k_ => nI (PP 1 k_))) 3 rfl (fun j hj => ?_) [(mo, o6 rm (nI tl) (nI cu) (nI n1) (nI n2) (nI n3) (nI v9) (nI n1) (nI n2) (nI n3) (nI cnt) (nI na) sd rw rx tm tf sm sf), (rm 0, .inl (cI, 48, .inl (fun k_ => nI (tx k_)))), (rm 1, .inl (cI, 5, .inl (fun k_ => nI (PP 0 k_)))), (rm 2, .inl (cI, 5, .inl (fun k_ => nI (PP 1 k_)))), (rm 3, .inl (cI, 5, .inl y3)), (rm 4, .inl (cI, 5, .inl (fun k_ => nI (P 3 k_)))), (rm 5, .inl (cI, 5, .inl (fun k_ => nI (P 4 k_)))), (rm 6, .inl (cI, 5, .inl (fun k_ => nI (P 5 k_)))), (rm 10, .inl (cI, 20, .inl (mp (beginF n1 v9 PU)))), (rm 14, .inl (cZ, 2, .inl ik)), (rm 7, .inl (cI, 3, .inl e7)), (rm 8, .inl (cI, 15, .inl e8)), (rm 9, .inl (cI, 15, .inl e9))] rfl ?_
                      · show y2 j = nI (PP 1 j)
                        rw [(hw j).2.1]
                        split
                        · rfl
                        · rw [hK2 1 j (by omega)]
                      refine g_arr (f2 := (fun k_ => nI (PP 2 k_))) 4 rfl (fun j hj => ?_) [(mo, o6 rm (nI tl) (nI cu) (nI n1) (nI n2) (nI n3) (nI v9) (nI n1) (nI n2) (nI n3) (nI cnt) (nI na) sd rw rx tm tf sm sf), (rm 0, .inl (cI, 48, .inl (fun k_ => nI (tx k_)))), (rm 1, .inl (cI, 5, .inl (fun k_ => nI (PP 0 k_)))), (rm 2, .inl (cI, 5, .inl (fun k_ => nI (PP 1 k_)))), (rm 3, .inl (cI, 5, .inl (fun k_ => nI (PP 2 k_)))), (rm 4, .inl (cI, 5, .inl (fun k_ => nI (P 3 k_)))), (rm 5, .inl (cI, 5, .inl (fun k_ => nI (P 4 k_)))), (rm 6, .inl (cI, 5, .inl (fun k_ => nI (P 5 k_)))), (rm 10, .inl (cI, 20, .inl (mp (beginF n1 v9 PU)))), (rm 14, .inl (cZ, 2, .inl ik)), (rm 7, .inl (cI, 3, .inl e7)), (rm 8, .inl (cI, 15, .inl e8)), (rm 9, .inl (cI, 15, .inl e9))] rfl ?_
                      · show y3 j = nI (PP 2 j)
                        rw [(hw j).2.2]
                        split
                        · rfl
                        · rw [hK2 2 j (by omega)]
                      refine g_iconst (v := nI 0) hC dX6_shop_166 rfl ?_
                      refine g_istore_n (lv' := [(0, .ref mo), (1, .int (nI 0))]) hC [1, 0] dX6_shop_167 rfl (by decide) rfl ?_
                      have L168 : ∀ (n : Nat) (d1 : Nat) (y1 : Nat → Int32) (y2 : Nat → Int32) (y3 : Nat → Int32), (d1 ≤ n3) → (∀ k, y1 k = (if k < d1 then nI (PP 3 k) else nI (P 3 k)) ∧ y2 k = (if k < d1 then nI (PP 4 k) else nI (P 4 k)) ∧ y3 k = (if k < d1 then nI (PP 5 k) else nI (P 5 k))) → n3 - d1 < n → G p l e rm_X6_shop s m args below meth cd D A 0 0 Q 2 [(mo, o6 rm (nI tl) (nI cu) (nI n1) (nI n2) (nI n3) (nI v9) (nI n1) (nI n2) (nI n3) (nI cnt) (nI na) sd rw rx tm tf sm sf), (rm 0, .inl (cI, 48, .inl (fun k_ => nI (tx k_)))), (rm 1, .inl (cI, 5, .inl (fun k_ => nI (PP 0 k_)))), (rm 2, .inl (cI, 5, .inl (fun k_ => nI (PP 1 k_)))), (rm 3, .inl (cI, 5, .inl (fun k_ => nI (PP 2 k_)))), (rm 4, .inl (cI, 5, .inl y1)), (rm 5, .inl (cI, 5, .inl y2)), (rm 6, .inl (cI, 5, .inl y3)), (rm 10, .inl (cI, 20, .inl (mp (beginF n1 v9 PU)))), (rm 14, .inl (cZ, 2, .inl ik)), (rm 7, .inl (cI, 3, .inl e7)), (rm 8, .inl (cI, 15, .inl e8)), (rm 9, .inl (cI, 15, .inl e9))] 168 [(0, .ref mo), (1, .int (nI d1))] [] := by
                        intro n
                        induction n with
                        | zero => intro d1 y1 y2 y3 hq hw hn; exact absurd hn (Nat.not_lt_zero _)
                        | succ n ih168 =>
                          intro d1 y1 y2 y3 hq hw hn
                          refine g_iload_n hC 1 dX6_shop_168 rfl rfl ?_
                          refine g_aload_n hC 0 dX6_shop_169 rfl rfl ?_
                          refine g_get (C := RX6) (T := TX6) (N := 38) (ci := 6) (v := .int (nI n3)) hC hcw6 0 rfl rfl 9 (by decide) w7 (fun _ h => h) rfl dX6_shop_170 ?_
                          refine g_icmp_ge_n (a := d1) (b := n3) hC (by omega) (by omega) 228 dX6_shop_173 (by decide) (fun h173t => ?_) (fun h173f => ?_)
                          · have ev3 : d1 = n3 := by omega
                            rw [ev3] at hw
                            refine g_arr (f2 := (fun k_ => nI (PP 3 k_))) 5 rfl (fun j hj => ?_) [(mo, o6 rm (nI tl) (nI cu) (nI n1) (nI n2) (nI n3) (nI v9) (nI n1) (nI n2) (nI n3) (nI cnt) (nI na) sd rw rx tm tf sm sf), (rm 0, .inl (cI, 48, .inl (fun k_ => nI (tx k_)))), (rm 1, .inl (cI, 5, .inl (fun k_ => nI (PP 0 k_)))), (rm 2, .inl (cI, 5, .inl (fun k_ => nI (PP 1 k_)))), (rm 3, .inl (cI, 5, .inl (fun k_ => nI (PP 2 k_)))), (rm 4, .inl (cI, 5, .inl (fun k_ => nI (PP 3 k_)))), (rm 5, .inl (cI, 5, .inl y2)), (rm 6, .inl (cI, 5, .inl y3)), (rm 10, .inl (cI, 20, .inl (mp (beginF n1 v9 PU)))), (rm 14, .inl (cZ, 2, .inl ik)), (rm 7, .inl (cI, 3, .inl e7)), (rm 8, .inl (cI, 15, .inl e8)), (rm 9, .inl (cI, 15, .inl e9))] rfl ?_
                            · show y1 j = nI (PP 3 j)
                              rw [(hw j).1]
                              split
                              · rfl
                              · rw [hK2 3 j (by omega)]
                            refine g_arr (f2 := (fun k_ => nI (PP 4 k_))) 6 rfl (fun j hj => ?_) [(mo, o6 rm (nI tl) (nI cu) (nI n1) (nI n2) (nI n3) (nI v9) (nI n1) (nI n2) (nI n3) (nI cnt) (nI na) sd rw rx tm tf sm sf), (rm 0, .inl (cI, 48, .inl (fun k_ => nI (tx k_)))), (rm 1, .inl (cI, 5, .inl (fun k_ => nI (PP 0 k_)))), (rm 2, .inl (cI, 5, .inl (fun k_ => nI (PP 1 k_)))), (rm 3, .inl (cI, 5, .inl (fun k_ => nI (PP 2 k_)))), (rm 4, .inl (cI, 5, .inl (fun k_ => nI (PP 3 k_)))), (rm 5, .inl (cI, 5, .inl (fun k_ => nI (PP 4 k_)))), (rm 6, .inl (cI, 5, .inl y3)), (rm 10, .inl (cI, 20, .inl (mp (beginF n1 v9 PU)))), (rm 14, .inl (cZ, 2, .inl ik)), (rm 7, .inl (cI, 3, .inl e7)), (rm 8, .inl (cI, 15, .inl e8)), (rm 9, .inl (cI, 15, .inl e9))] rfl ?_
                            · show y2 j = nI (PP 4 j)
                              rw [(hw j).2.1]
                              split
                              · rfl
                              · rw [hK2 4 j (by omega)]
                            refine g_arr (f2 := (fun k_ => nI (PP 5 k_))) 7 rfl (fun j hj => ?_) [(mo, o6 rm (nI tl) (nI cu) (nI n1) (nI n2) (nI n3) (nI v9) (nI n1) (nI n2) (nI n3) (nI cnt) (nI na) sd rw rx tm tf sm sf), (rm 0, .inl (cI, 48, .inl (fun k_ => nI (tx k_)))), (rm 1, .inl (cI, 5, .inl (fun k_ => nI (PP 0 k_)))), (rm 2, .inl (cI, 5, .inl (fun k_ => nI (PP 1 k_)))), (rm 3, .inl (cI, 5, .inl (fun k_ => nI (PP 2 k_)))), (rm 4, .inl (cI, 5, .inl (fun k_ => nI (PP 3 k_)))), (rm 5, .inl (cI, 5, .inl (fun k_ => nI (PP 4 k_)))), (rm 6, .inl (cI, 5, .inl (fun k_ => nI (PP 5 k_)))), (rm 10, .inl (cI, 20, .inl (mp (beginF n1 v9 PU)))), (rm 14, .inl (cZ, 2, .inl ik)), (rm 7, .inl (cI, 3, .inl e7)), (rm 8, .inl (cI, 15, .inl e8)), (rm 9, .inl (cI, 15, .inl e9))] rfl ?_
                            · show y3 j = nI (PP 5 j)
                              rw [(hw j).2.2]
                              split
                              · rfl
                              · rw [hK2 5 j (by omega)]
                            refine g_aload_n hC 0 dX6_shop_228 rfl rfl ?_
                            refine g_iconst (v := nI 0) hC dX6_shop_229 rfl ?_
                            refine g_put (C := RX6) (T := TX6) (N := 38) (ci := 6) (v := .int (nI 0)) hC hcw6 tyX6 tyX6_ok nmX6 0 rfl rfl 23 (by decide) w19 (fun _ h => h) rfl (tyX6_ok 23 (by decide)) rfl rfl (Nat.le_of_ble_eq_true rfl) [(mo, o6 rm (nI tl) (nI cu) (nI n1) (nI n2) (nI n3) (nI v9) (nI n1) (nI n2) (nI n3) (nI 0) (nI na) sd rw rx tm tf sm sf), (rm 0, .inl (cI, 48, .inl (fun k_ => nI (tx k_)))), (rm 1, .inl (cI, 5, .inl (fun k_ => nI (PP 0 k_)))), (rm 2, .inl (cI, 5, .inl (fun k_ => nI (PP 1 k_)))), (rm 3, .inl (cI, 5, .inl (fun k_ => nI (PP 2 k_)))), (rm 4, .inl (cI, 5, .inl (fun k_ => nI (PP 3 k_)))), (rm 5, .inl (cI, 5, .inl (fun k_ => nI (PP 4 k_)))), (rm 6, .inl (cI, 5, .inl (fun k_ => nI (PP 5 k_)))), (rm 10, .inl (cI, 20, .inl (mp (beginF n1 v9 PU)))), (rm 14, .inl (cZ, 2, .inl ik)), (rm 7, .inl (cI, 3, .inl e7)), (rm 8, .inl (cI, 15, .inl e8)), (rm 9, .inl (cI, 15, .inl e9))] rfl dX6_shop_230 ?_
                            refine g_aload_n hC 0 dX6_shop_233 rfl rfl ?_
                            refine g_get (C := RX6) (T := TX6) (N := 38) (ci := 6) (v := .ref (rm 14)) hC hcw6 0 rfl rfl 25 (by decide) w20 (fun _ h => h) rfl dX6_shop_234 ?_
                            refine g_iconst (v := nI 0) hC dX6_shop_237 rfl ?_
                            refine g_iconst (v := nI 0) hC dX6_shop_238 rfl ?_
                            refine g_zast hC 9 rfl 0 rfl (by omega) (by decide) (by decide +kernel) [(mo, o6 rm (nI tl) (nI cu) (nI n1) (nI n2) (nI n3) (nI v9) (nI n1) (nI n2) (nI n3) (nI 0) (nI na) sd rw rx tm tf sm sf), (rm 0, .inl (cI, 48, .inl (fun k_ => nI (tx k_)))), (rm 1, .inl (cI, 5, .inl (fun k_ => nI (PP 0 k_)))), (rm 2, .inl (cI, 5, .inl (fun k_ => nI (PP 1 k_)))), (rm 3, .inl (cI, 5, .inl (fun k_ => nI (PP 2 k_)))), (rm 4, .inl (cI, 5, .inl (fun k_ => nI (PP 3 k_)))), (rm 5, .inl (cI, 5, .inl (fun k_ => nI (PP 4 k_)))), (rm 6, .inl (cI, 5, .inl (fun k_ => nI (PP 5 k_)))), (rm 10, .inl (cI, 20, .inl (mp (beginF n1 v9 PU)))), (rm 14, .inl (cZ, 2, .inl (upd ik 0 (nI 0)))), (rm 7, .inl (cI, 3, .inl e7)), (rm 8, .inl (cI, 15, .inl e8)), (rm 9, .inl (cI, 15, .inl e9))] rfl dX6_shop_239 ?_
                            refine g_aload_n hC 0 dX6_shop_240 rfl rfl ?_
                            refine g_get (C := RX6) (T := TX6) (N := 38) (ci := 6) (v := .ref (rm 14)) hC hcw6 0 rfl rfl 25 (by decide) w20 (fun _ h => h) rfl dX6_shop_241 ?_
                            refine g_iconst (v := nI 1) hC dX6_shop_244 rfl ?_
                            refine g_iconst (v := nI 0) hC dX6_shop_245 rfl ?_
                            refine g_zast hC 9 rfl 1 rfl (by omega) (by decide) (by decide +kernel) [(mo, o6 rm (nI tl) (nI cu) (nI n1) (nI n2) (nI n3) (nI v9) (nI n1) (nI n2) (nI n3) (nI 0) (nI na) sd rw rx tm tf sm sf), (rm 0, .inl (cI, 48, .inl (fun k_ => nI (tx k_)))), (rm 1, .inl (cI, 5, .inl (fun k_ => nI (PP 0 k_)))), (rm 2, .inl (cI, 5, .inl (fun k_ => nI (PP 1 k_)))), (rm 3, .inl (cI, 5, .inl (fun k_ => nI (PP 2 k_)))), (rm 4, .inl (cI, 5, .inl (fun k_ => nI (PP 3 k_)))), (rm 5, .inl (cI, 5, .inl (fun k_ => nI (PP 4 k_)))), (rm 6, .inl (cI, 5, .inl (fun k_ => nI (PP 5 k_)))), (rm 10, .inl (cI, 20, .inl (mp (beginF n1 v9 PU)))), (rm 14, .inl (cZ, 2, .inl (upd (upd ik 0 (nI 0)) 1 (nI 0)))), (rm 7, .inl (cI, 3, .inl e7)), (rm 8, .inl (cI, 15, .inl e8)), (rm 9, .inl (cI, 15, .inl e9))] rfl dX6_shop_246 ?_
                            refine g_bipush (v := nI 100) hC dX6_shop_247 (by decide +kernel) ?_
                            refine g_aload_n hC 0 dX6_shop_249 rfl rfl ?_
                            refine g_get (C := RX6) (T := TX6) (N := 38) (ci := 6) (v := .int (nI n1)) hC hcw6 0 rfl rfl 4 (by decide) w3 (fun _ h => h) rfl dX6_shop_250 ?_
                            refine g_imul_n (a := 100) (b := n1) hC dX6_shop_253 ?_
                            refine g_bipush (v := nI 10) hC dX6_shop_254 (by decide +kernel) ?_
                            refine g_aload_n hC 0 dX6_shop_256 rfl rfl ?_
                            refine g_get (C := RX6) (T := TX6) (N := 38) (ci := 6) (v := .int (nI n2)) hC hcw6 0 rfl rfl 5 (by decide) w5 (fun _ h => h) rfl dX6_shop_257 ?_
                            refine g_imul_n (a := 10) (b := n2) hC dX6_shop_260 ?_
                            refine g_iadd_n (a := (100 * n1)) (b := (10 * n2)) hC dX6_shop_261 ?_
                            refine g_aload_n hC 0 dX6_shop_262 rfl rfl ?_
                            refine g_get (C := RX6) (T := TX6) (N := 38) (ci := 6) (v := .int (nI n3)) hC hcw6 0 rfl rfl 9 (by decide) w7 (fun _ h => h) rfl dX6_shop_263 ?_
                            refine g_iadd_n (a := (100 * n1 + (10 * n2))) (b := n3) hC dX6_shop_266 ?_
                            subst hQ
                            refine g_iret (v := nI (100 * n1 + (10 * n2) + n3)) hC (nI v9, cu, n1, n2, n3, e7, e8, e9, n1, n2, n3, 0, PU, PP, beginF n1 v9 PU, upd (upd ik 0 (nI 0)) 1 (nI 0)) hr ?_ rfl dX6_shop_267
                            exact ⟨fun _ => ⟨rfl, congrArg Prod.snd hS, by rw [← hv9], rfl, by rw [upd_ne _ _ (by decide), upd_self], upd_self _ _ _⟩, fun q => absurd hy q⟩
                          refine g_aload_n hC 0 dX6_shop_176 rfl rfl ?_
                          refine g_get (C := RX6) (T := TX6) (N := 38) (ci := 6) (v := .ref (rm 4)) hC hcw6 0 rfl rfl 10 (by decide) w15 (fun _ h => h) rfl dX6_shop_177 ?_
                          refine g_iload_n hC 1 dX6_shop_180 rfl rfl ?_
                          refine g_aload_n hC 0 dX6_shop_181 rfl rfl ?_
                          refine g_get (C := RX6) (T := TX6) (N := 38) (ci := 6) (v := .ref (rm 9)) hC hcw6 0 rfl rfl 19 (by decide) w16 (fun _ h => h) rfl dX6_shop_182 ?_
                          refine g_iconst (v := nI 3) hC dX6_shop_185 rfl ?_
                          refine g_iload_n hC 1 dX6_shop_186 rfl rfl ?_
                          refine g_imul_n (a := 3) (b := d1) hC dX6_shop_187 ?_
                          refine g_iald hC 12 rfl (3 * d1) rfl (by omega) (by decide) dX6_shop_188 ?_
                          refine g_iast hC 5 rfl d1 rfl (by omega) (by decide) [(mo, o6 rm (nI tl) (nI cu) (nI n1) (nI n2) (nI n3) (nI v9) (nI n1) (nI n2) (nI n3) (nI cnt) (nI na) sd rw rx tm tf sm sf), (rm 0, .inl (cI, 48, .inl (fun k_ => nI (tx k_)))), (rm 1, .inl (cI, 5, .inl (fun k_ => nI (PP 0 k_)))), (rm 2, .inl (cI, 5, .inl (fun k_ => nI (PP 1 k_)))), (rm 3, .inl (cI, 5, .inl (fun k_ => nI (PP 2 k_)))), (rm 4, .inl (cI, 5, .inl (upd y1 d1 (e9 (3 * d1))))), (rm 5, .inl (cI, 5, .inl y2)), (rm 6, .inl (cI, 5, .inl y3)), (rm 10, .inl (cI, 20, .inl (mp (beginF n1 v9 PU)))), (rm 14, .inl (cZ, 2, .inl ik)), (rm 7, .inl (cI, 3, .inl e7)), (rm 8, .inl (cI, 15, .inl e8)), (rm 9, .inl (cI, 15, .inl e9))] rfl dX6_shop_189 ?_
                          refine g_aload_n hC 0 dX6_shop_190 rfl rfl ?_
                          refine g_get (C := RX6) (T := TX6) (N := 38) (ci := 6) (v := .ref (rm 5)) hC hcw6 0 rfl rfl 11 (by decide) w17 (fun _ h => h) rfl dX6_shop_191 ?_
                          refine g_iload_n hC 1 dX6_shop_194 rfl rfl ?_
                          refine g_aload_n hC 0 dX6_shop_195 rfl rfl ?_
                          refine g_get (C := RX6) (T := TX6) (N := 38) (ci := 6) (v := .ref (rm 9)) hC hcw6 0 rfl rfl 19 (by decide) w16 (fun _ h => h) rfl dX6_shop_196 ?_
                          refine g_iconst (v := nI 3) hC dX6_shop_199 rfl ?_
                          refine g_iload_n hC 1 dX6_shop_200 rfl rfl ?_
                          refine g_imul_n (a := 3) (b := d1) hC dX6_shop_201 ?_
                          refine g_iconst (v := nI 1) hC dX6_shop_202 rfl ?_
                          refine g_iadd_n (a := (3 * d1)) (b := 1) hC dX6_shop_203 ?_
                          refine g_iald hC 12 rfl (3 * d1 + 1) rfl (by omega) (by decide) dX6_shop_204 ?_
                          refine g_iast hC 6 rfl d1 rfl (by omega) (by decide) [(mo, o6 rm (nI tl) (nI cu) (nI n1) (nI n2) (nI n3) (nI v9) (nI n1) (nI n2) (nI n3) (nI cnt) (nI na) sd rw rx tm tf sm sf), (rm 0, .inl (cI, 48, .inl (fun k_ => nI (tx k_)))), (rm 1, .inl (cI, 5, .inl (fun k_ => nI (PP 0 k_)))), (rm 2, .inl (cI, 5, .inl (fun k_ => nI (PP 1 k_)))), (rm 3, .inl (cI, 5, .inl (fun k_ => nI (PP 2 k_)))), (rm 4, .inl (cI, 5, .inl (upd y1 d1 (e9 (3 * d1))))), (rm 5, .inl (cI, 5, .inl (upd y2 d1 (e9 (3 * d1 + 1))))), (rm 6, .inl (cI, 5, .inl y3)), (rm 10, .inl (cI, 20, .inl (mp (beginF n1 v9 PU)))), (rm 14, .inl (cZ, 2, .inl ik)), (rm 7, .inl (cI, 3, .inl e7)), (rm 8, .inl (cI, 15, .inl e8)), (rm 9, .inl (cI, 15, .inl e9))] rfl dX6_shop_205 ?_
                          refine g_aload_n hC 0 dX6_shop_206 rfl rfl ?_
                          refine g_get (C := RX6) (T := TX6) (N := 38) (ci := 6) (v := .ref (rm 6)) hC hcw6 0 rfl rfl 12 (by decide) w18 (fun _ h => h) rfl dX6_shop_207 ?_
                          refine g_iload_n hC 1 dX6_shop_210 rfl rfl ?_
                          refine g_aload_n hC 0 dX6_shop_211 rfl rfl ?_
                          refine g_get (C := RX6) (T := TX6) (N := 38) (ci := 6) (v := .ref (rm 9)) hC hcw6 0 rfl rfl 19 (by decide) w16 (fun _ h => h) rfl dX6_shop_212 ?_
                          refine g_iconst (v := nI 3) hC dX6_shop_215 rfl ?_
                          refine g_iload_n hC 1 dX6_shop_216 rfl rfl ?_
                          refine g_imul_n (a := 3) (b := d1) hC dX6_shop_217 ?_
                          refine g_iconst (v := nI 2) hC dX6_shop_218 rfl ?_
                          refine g_iadd_n (a := (3 * d1)) (b := 2) hC dX6_shop_219 ?_
                          refine g_iald hC 12 rfl (3 * d1 + 2) rfl (by omega) (by decide) dX6_shop_220 ?_
                          refine g_iast hC 7 rfl d1 rfl (by omega) (by decide) [(mo, o6 rm (nI tl) (nI cu) (nI n1) (nI n2) (nI n3) (nI v9) (nI n1) (nI n2) (nI n3) (nI cnt) (nI na) sd rw rx tm tf sm sf), (rm 0, .inl (cI, 48, .inl (fun k_ => nI (tx k_)))), (rm 1, .inl (cI, 5, .inl (fun k_ => nI (PP 0 k_)))), (rm 2, .inl (cI, 5, .inl (fun k_ => nI (PP 1 k_)))), (rm 3, .inl (cI, 5, .inl (fun k_ => nI (PP 2 k_)))), (rm 4, .inl (cI, 5, .inl (upd y1 d1 (e9 (3 * d1))))), (rm 5, .inl (cI, 5, .inl (upd y2 d1 (e9 (3 * d1 + 1))))), (rm 6, .inl (cI, 5, .inl (upd y3 d1 (e9 (3 * d1 + 2))))), (rm 10, .inl (cI, 20, .inl (mp (beginF n1 v9 PU)))), (rm 14, .inl (cZ, 2, .inl ik)), (rm 7, .inl (cI, 3, .inl e7)), (rm 8, .inl (cI, 15, .inl e8)), (rm 9, .inl (cI, 15, .inl e9))] rfl dX6_shop_221 ?_
                          refine g_iinc (v := nI (d1 + 1)) (lv' := [(0, .ref mo), (1, .int (nI (d1 + 1)))]) hC 1 [1, 0] dX6_shop_222 rfl (nI_add _ 1) (by decide) rfl ?_
                          refine g_goto hC 168 dX6_shop_225 (by decide) ?_
                          refine ih168 (d1 + 1) (upd y1 d1 (e9 (3 * d1))) (upd y2 d1 (e9 (3 * d1 + 1))) (upd y3 d1 (e9 (3 * d1 + 2))) ?_ ?_ ?_
                          · omega
                          · intro k
                            have h8 := hR.2.2 d1 (by omega)
                            obtain ⟨a1, a2, a3⟩ := hw k
                            by_cases e : k = d1
                            · rw [e]
                              exact ⟨by rw [upd_self, if_pos (Nat.lt_succ_self _)]; exact h8.1, by rw [upd_self, if_pos (Nat.lt_succ_self _)]; exact h8.2.1, by rw [upd_self, if_pos (Nat.lt_succ_self _)]; exact h8.2.2⟩
                            · exact ⟨by rw [upd_ne _ _ e, if_s e]; exact a1, by rw [upd_ne _ _ e, if_s e]; exact a2, by rw [upd_ne _ _ e, if_s e]; exact a3⟩
                          · omega
                      refine L168 _ 0 (fun k_ => nI (P 3 k_)) (fun k_ => nI (P 4 k_)) (fun k_ => nI (P 5 k_)) ?_ ?_ (Nat.lt_succ_self _)
                      · omega
                      · intro k
                        refine ⟨?_, ?_, ?_⟩ <;> rw [if_neg (Nat.not_lt_zero _)]
                    refine g_aload_n hC 0 dX6_shop_114 rfl rfl ?_
                    refine g_get (C := RX6) (T := TX6) (N := 38) (ci := 6) (v := .ref (rm 1)) hC hcw6 0 rfl rfl 6 (by decide) w11 (fun _ h => h) rfl dX6_shop_115 ?_
                    refine g_iload_n hC 1 dX6_shop_118 rfl rfl ?_
                    refine g_aload_n hC 0 dX6_shop_119 rfl rfl ?_
                    refine g_get (C := RX6) (T := TX6) (N := 38) (ci := 6) (v := .ref (rm 8)) hC hcw6 0 rfl rfl 17 (by decide) w12 (fun _ h => h) rfl dX6_shop_120 ?_
                    refine g_iconst (v := nI 3) hC dX6_shop_123 rfl ?_
                    refine g_iload_n hC 1 dX6_shop_124 rfl rfl ?_
                    refine g_imul_n (a := 3) (b := q1) hC dX6_shop_125 ?_
                    refine g_iald hC 11 rfl (3 * q1) rfl (by omega) (by decide) dX6_shop_126 ?_
                    refine g_iast hC 2 rfl q1 rfl (by omega) (by decide) [(mo, o6 rm (nI tl) (nI cu) (nI n1) (nI n2) (nI n3) (nI v9) (nI n1) (nI n2) (nI n3) (nI cnt) (nI na) sd rw rx tm tf sm sf), (rm 0, .inl (cI, 48, .inl (fun k_ => nI (tx k_)))), (rm 1, .inl (cI, 5, .inl (upd y1 q1 (e8 (3 * q1))))), (rm 2, .inl (cI, 5, .inl y2)), (rm 3, .inl (cI, 5, .inl y3)), (rm 4, .inl (cI, 5, .inl (fun k_ => nI (P 3 k_)))), (rm 5, .inl (cI, 5, .inl (fun k_ => nI (P 4 k_)))), (rm 6, .inl (cI, 5, .inl (fun k_ => nI (P 5 k_)))), (rm 10, .inl (cI, 20, .inl (mp (beginF n1 v9 PU)))), (rm 14, .inl (cZ, 2, .inl ik)), (rm 7, .inl (cI, 3, .inl e7)), (rm 8, .inl (cI, 15, .inl e8)), (rm 9, .inl (cI, 15, .inl e9))] rfl dX6_shop_127 ?_
                    refine g_aload_n hC 0 dX6_shop_128 rfl rfl ?_
                    refine g_get (C := RX6) (T := TX6) (N := 38) (ci := 6) (v := .ref (rm 2)) hC hcw6 0 rfl rfl 7 (by decide) w13 (fun _ h => h) rfl dX6_shop_129 ?_
                    refine g_iload_n hC 1 dX6_shop_132 rfl rfl ?_
                    refine g_aload_n hC 0 dX6_shop_133 rfl rfl ?_
                    refine g_get (C := RX6) (T := TX6) (N := 38) (ci := 6) (v := .ref (rm 8)) hC hcw6 0 rfl rfl 17 (by decide) w12 (fun _ h => h) rfl dX6_shop_134 ?_
                    refine g_iconst (v := nI 3) hC dX6_shop_137 rfl ?_
                    refine g_iload_n hC 1 dX6_shop_138 rfl rfl ?_
                    refine g_imul_n (a := 3) (b := q1) hC dX6_shop_139 ?_
                    refine g_iconst (v := nI 1) hC dX6_shop_140 rfl ?_
                    refine g_iadd_n (a := (3 * q1)) (b := 1) hC dX6_shop_141 ?_
                    refine g_iald hC 11 rfl (3 * q1 + 1) rfl (by omega) (by decide) dX6_shop_142 ?_
                    refine g_iast hC 3 rfl q1 rfl (by omega) (by decide) [(mo, o6 rm (nI tl) (nI cu) (nI n1) (nI n2) (nI n3) (nI v9) (nI n1) (nI n2) (nI n3) (nI cnt) (nI na) sd rw rx tm tf sm sf), (rm 0, .inl (cI, 48, .inl (fun k_ => nI (tx k_)))), (rm 1, .inl (cI, 5, .inl (upd y1 q1 (e8 (3 * q1))))), (rm 2, .inl (cI, 5, .inl (upd y2 q1 (e8 (3 * q1 + 1))))), (rm 3, .inl (cI, 5, .inl y3)), (rm 4, .inl (cI, 5, .inl (fun k_ => nI (P 3 k_)))), (rm 5, .inl (cI, 5, .inl (fun k_ => nI (P 4 k_)))), (rm 6, .inl (cI, 5, .inl (fun k_ => nI (P 5 k_)))), (rm 10, .inl (cI, 20, .inl (mp (beginF n1 v9 PU)))), (rm 14, .inl (cZ, 2, .inl ik)), (rm 7, .inl (cI, 3, .inl e7)), (rm 8, .inl (cI, 15, .inl e8)), (rm 9, .inl (cI, 15, .inl e9))] rfl dX6_shop_143 ?_
                    refine g_aload_n hC 0 dX6_shop_144 rfl rfl ?_
                    refine g_get (C := RX6) (T := TX6) (N := 38) (ci := 6) (v := .ref (rm 3)) hC hcw6 0 rfl rfl 8 (by decide) w14 (fun _ h => h) rfl dX6_shop_145 ?_
                    refine g_iload_n hC 1 dX6_shop_148 rfl rfl ?_
                    refine g_aload_n hC 0 dX6_shop_149 rfl rfl ?_
                    refine g_get (C := RX6) (T := TX6) (N := 38) (ci := 6) (v := .ref (rm 8)) hC hcw6 0 rfl rfl 17 (by decide) w12 (fun _ h => h) rfl dX6_shop_150 ?_
                    refine g_iconst (v := nI 3) hC dX6_shop_153 rfl ?_
                    refine g_iload_n hC 1 dX6_shop_154 rfl rfl ?_
                    refine g_imul_n (a := 3) (b := q1) hC dX6_shop_155 ?_
                    refine g_iconst (v := nI 2) hC dX6_shop_156 rfl ?_
                    refine g_iadd_n (a := (3 * q1)) (b := 2) hC dX6_shop_157 ?_
                    refine g_iald hC 11 rfl (3 * q1 + 2) rfl (by omega) (by decide) dX6_shop_158 ?_
                    refine g_iast hC 4 rfl q1 rfl (by omega) (by decide) [(mo, o6 rm (nI tl) (nI cu) (nI n1) (nI n2) (nI n3) (nI v9) (nI n1) (nI n2) (nI n3) (nI cnt) (nI na) sd rw rx tm tf sm sf), (rm 0, .inl (cI, 48, .inl (fun k_ => nI (tx k_)))), (rm 1, .inl (cI, 5, .inl (upd y1 q1 (e8 (3 * q1))))), (rm 2, .inl (cI, 5, .inl (upd y2 q1 (e8 (3 * q1 + 1))))), (rm 3, .inl (cI, 5, .inl (upd y3 q1 (e8 (3 * q1 + 2))))), (rm 4, .inl (cI, 5, .inl (fun k_ => nI (P 3 k_)))), (rm 5, .inl (cI, 5, .inl (fun k_ => nI (P 4 k_)))), (rm 6, .inl (cI, 5, .inl (fun k_ => nI (P 5 k_)))), (rm 10, .inl (cI, 20, .inl (mp (beginF n1 v9 PU)))), (rm 14, .inl (cZ, 2, .inl ik)), (rm 7, .inl (cI, 3, .inl e7)), (rm 8, .inl (cI, 15, .inl e8)), (rm 9, .inl (cI, 15, .inl e9))] rfl dX6_shop_159 ?_
                    refine g_iinc (v := nI (q1 + 1)) (lv' := [(0, .ref mo), (1, .int (nI (q1 + 1)))]) hC 1 [1, 0] dX6_shop_160 rfl (nI_add _ 1) (by decide) rfl ?_
                    refine g_goto hC 106 dX6_shop_163 (by decide) ?_
                    refine ih106 (q1 + 1) (upd y1 q1 (e8 (3 * q1))) (upd y2 q1 (e8 (3 * q1 + 1))) (upd y3 q1 (e8 (3 * q1 + 2))) ?_ ?_ ?_
                    · omega
                    · intro k
                      have h8 := hR.2.1 q1 (by omega)
                      obtain ⟨a1, a2, a3⟩ := hw k
                      by_cases e : k = q1
                      · rw [e]
                        exact ⟨by rw [upd_self, if_pos (Nat.lt_succ_self _)]; exact h8.1, by rw [upd_self, if_pos (Nat.lt_succ_self _)]; exact h8.2.1, by rw [upd_self, if_pos (Nat.lt_succ_self _)]; exact h8.2.2⟩
                      · exact ⟨by rw [upd_ne _ _ e, if_s e]; exact a1, by rw [upd_ne _ _ e, if_s e]; exact a2, by rw [upd_ne _ _ e, if_s e]; exact a3⟩
                    · omega
                refine L106 _ 0 (fun k_ => nI (P 0 k_)) (fun k_ => nI (P 1 k_)) (fun k_ => nI (P 2 k_)) ?_ ?_ (Nat.lt_succ_self _)
                · omega
                · intro k
                  refine ⟨?_, ?_, ?_⟩ <;> rw [if_neg (Nat.not_lt_zero _)]
              refine g_aload_n hC 0 dX6_shop_84 rfl rfl ?_
              refine g_get (C := RX6) (T := TX6) (N := 38) (ci := 6) (v := .ref (rm 10)) hC hcw6 0 rfl rfl 20 (by decide) w8 (fun _ h => h) rfl dX6_shop_85 ?_
              refine g_iconst (v := nI 1) hC dX6_shop_88 rfl ?_
              refine g_iload_n hC 1 dX6_shop_89 rfl rfl ?_
              refine g_iadd_n (a := 1) (b := p2) hC dX6_shop_90 ?_
              refine g_aload_n hC 0 dX6_shop_91 rfl rfl ?_
              refine g_get (C := RX6) (T := TX6) (N := 38) (ci := 6) (v := .ref (rm 7)) hC hcw6 0 rfl rfl 15 (by decide) w10 (fun _ h => h) rfl dX6_shop_92 ?_
              refine g_iload_n hC 1 dX6_shop_95 rfl rfl ?_
              refine g_iald hC 10 rfl p2 rfl (by omega) (by decide) dX6_shop_96 ?_
              refine g_iast hC 8 rfl (1 + p2) rfl (by omega) (by decide) [(mo, o6 rm (nI tl) (nI cu) (nI n1) (nI n2) (nI n3) (nI v9) (nI n1) (nI n2) (nI n3) (nI cnt) (nI na) sd rw rx tm tf sm sf), (rm 0, .inl (cI, 48, .inl (fun k_ => nI (tx k_)))), (rm 1, .inl (cI, 5, .inl (fun k_ => nI (P 0 k_)))), (rm 2, .inl (cI, 5, .inl (fun k_ => nI (P 1 k_)))), (rm 3, .inl (cI, 5, .inl (fun k_ => nI (P 2 k_)))), (rm 4, .inl (cI, 5, .inl (fun k_ => nI (P 3 k_)))), (rm 5, .inl (cI, 5, .inl (fun k_ => nI (P 4 k_)))), (rm 6, .inl (cI, 5, .inl (fun k_ => nI (P 5 k_)))), (rm 10, .inl (cI, 20, .inl (upd pg2 (1 + p2) (e7 p2)))), (rm 14, .inl (cZ, 2, .inl ik)), (rm 7, .inl (cI, 3, .inl e7)), (rm 8, .inl (cI, 15, .inl e8)), (rm 9, .inl (cI, 15, .inl e9))] rfl dX6_shop_97 ?_
              refine g_iinc (v := nI (p2 + 1)) (lv' := [(0, .ref mo), (1, .int (nI (p2 + 1)))]) hC 1 [1, 0] dX6_shop_98 rfl (nI_add _ 1) (by decide) rfl ?_
              refine g_goto hC 76 dX6_shop_101 (by decide) ?_
              refine ih76 (p2 + 1) (upd pg2 (1 + p2) (e7 p2)) ?_ ?_ ?_
              · omega
              · intro j hj
                by_cases e : j = 1 + p2
                · rw [e, upd_self, hR.1 p2 (by omega), if_neg (by omega), if_pos (by omega), show 1 + p2 - 1 = p2 by omega]
                · rw [upd_ne _ _ e, hpg2 j hj]
                  by_cases e0 : j = 0
                  · rw [if_pos e0, if_pos e0]
                  · rw [if_neg e0, if_neg e0]
                    by_cases e1 : 1 ≤ j ∧ j < 1 + p2
                    · rw [if_pos e1, if_pos (by omega)]
                    · rw [if_neg e1, if_neg (by omega)]
              · omega
          refine L76 _ 0 (upd pg 0 (nI (4 * v9))) ?_ ?_ (Nat.lt_succ_self _)
          · omega
          · intro j hj
            by_cases e0 : j = 0
            · rw [e0, upd_self, if_pos rfl]
            · rw [upd_ne _ _ e0, if_neg e0, if_neg (by omega)]; exact hpg j (by omega)
        refine g_aload_n hC 0 dX6_shop_49 rfl rfl ?_
        refine g_get (C := RX6) (T := TX6) (N := 38) (ci := 6) (v := .ref (rm 10)) hC hcw6 0 rfl rfl 20 (by decide) w8 (fun _ h => h) rfl dX6_shop_50 ?_
        refine g_iload_n hC 1 dX6_shop_53 rfl rfl ?_
        refine g_iconst (v := nI 0) hC dX6_shop_54 rfl ?_
        refine g_iast hC 8 rfl i rfl (by omega) (by decide) [(mo, o6 rm (nI tl) (nI cu) (nI n1) (nI n2) (nI n3) (nI v9) (nI n1) (nI n2) (nI n3) (nI cnt) (nI na) sd rw rx tm tf sm sf), (rm 0, .inl (cI, 48, .inl (fun k_ => nI (tx k_)))), (rm 1, .inl (cI, 5, .inl (fun k_ => nI (P 0 k_)))), (rm 2, .inl (cI, 5, .inl (fun k_ => nI (P 1 k_)))), (rm 3, .inl (cI, 5, .inl (fun k_ => nI (P 2 k_)))), (rm 4, .inl (cI, 5, .inl (fun k_ => nI (P 3 k_)))), (rm 5, .inl (cI, 5, .inl (fun k_ => nI (P 4 k_)))), (rm 6, .inl (cI, 5, .inl (fun k_ => nI (P 5 k_)))), (rm 10, .inl (cI, 20, .inl (upd pg i (nI 0)))), (rm 14, .inl (cZ, 2, .inl ik)), (rm 7, .inl (cI, 3, .inl e7)), (rm 8, .inl (cI, 15, .inl e8)), (rm 9, .inl (cI, 15, .inl e9))] rfl dX6_shop_55 ?_
        refine g_iinc (v := nI (i + 1)) (lv' := [(0, .ref mo), (1, .int (nI (i + 1)))]) hC 1 [1, 0] dX6_shop_56 rfl (nI_add _ 1) (by decide) rfl ?_
        refine g_goto hC 43 dX6_shop_59 (by decide) ?_
        refine ih43 (i + 1) (upd pg i (nI 0)) ?_ ?_ ?_
        · omega
        · intro j hj
          by_cases e : j = i
          · rw [e, upd_self]
          · rw [upd_ne _ _ e]; exact hpg j (by omega)
        · omega
    refine L43 _ 0 (mp c) ?_ ?_ (Nat.lt_succ_self _)
    · omega
    · exact fun j h => absurd h (Nat.not_lt_zero _)
  refine g_bipush (v := (-3)) hC dX6_shop_14 (by decide +kernel) ?_
  subst hQ
  refine g_iret (v := -3) hC (rt2_1, cur2_2, ap2_3, aq2_4, ad2_5, f72_8, f82_9, f92_10, np, nq, nd, cnt, pu, P, c, ik) hr ?_ rfl dX6_shop_16
  have hn : ¬ (rdA tx tl pu P).1 = (-9) := fun q => h11f (hp6.1.trans q)
  exact ⟨fun q => absurd q hn, fun _ => ⟨rfl, rfl⟩⟩

abbrev rm_X5_shop : Room := { frames := 6, cells := 0, slots := 0, locals := 133 }
set_option maxRecDepth 100000 in
set_option maxHeartbeats 8000000 in
theorem c_X5_shop (l : Launch) (D : va_G) (cI cZ : ClassId) (xo : Nat) (xt : Nat) (xp : Nat) (xd : Nat) (xn : Nat) (xa : Nat) (xc : Nat) (xs : Nat) (xk : Nat) (ks : Int32) (ch : Int64) (xtb : Nat) (tx : Nat → Nat) (tl : Nat) (cur : Nat) (dr : Nat → Nat) (dti : Int32) (dnp : Nat) (dnq : Nat) (dnd : Nat) (dpu : Nat → Nat) (dP : Nat → Nat → Nat) (r : Nat → Nat) (ti : Int32) (np : Nat) (nq : Nat) (nd : Nat) (pu : Nat → Nat) (P : Nat → Nat → Nat) (xnc : Nat) (c : Nat → Int32) (xcb : Nat) (u : Nat) (cnt : Nat) (hl : tl ≤ 48) (htx : ∀ k, tx k < 256) : CtI l yX5_shop wsX5_shop rm_X5_shop D cI cZ [.ref xo] [(xo, o5 xt xp xd xn xa xc xs xk ks ch), (xt, .inr (4, [.ref xtb, .int (nI tl), .int (nI cur)])), (xtb, .inl (cI, 48, .inl (fun k_ => nI (tx k_)))), (xd, o2 dr dti dnp dnq dnd), (dr 0, .inl (cI, 3, .inl (fun k_ => nI (dpu k_)))), (dr 1, .inl (cI, 5, .inl (fun k_ => nI (dP 0 k_)))), (dr 2, .inl (cI, 5, .inl (fun k_ => nI (dP 1 k_)))), (dr 3, .inl (cI, 5, .inl (fun k_ => nI (dP 2 k_)))), (dr 4, .inl (cI, 5, .inl (fun k_ => nI (dP 3 k_)))), (dr 5, .inl (cI, 5, .inl (fun k_ => nI (dP 4 k_)))), (dr 6, .inl (cI, 5, .inl (fun k_ => nI (dP 5 k_)))), (xp, o2 r ti np nq nd), (r 0, .inl (cI, 3, .inl (fun k_ => nI (pu k_)))), (r 1, .inl (cI, 5, .inl (fun k_ => nI (P 0 k_)))), (r 2, .inl (cI, 5, .inl (fun k_ => nI (P 1 k_)))), (r 3, .inl (cI, 5, .inl (fun k_ => nI (P 2 k_)))), (r 4, .inl (cI, 5, .inl (fun k_ => nI (P 3 k_)))), (r 5, .inl (cI, 5, .inl (fun k_ => nI (P 4 k_)))), (r 6, .inl (cI, 5, .inl (fun k_ => nI (P 5 k_)))), (xn, .inr (3, [.ref xp, .ref xnc])), (xnc, .inl (cI, 20, .inl c)), (xc, .inr (0, [.ref xcb, .int (nI u), .int (nI cnt)]))] (fun (r : Int32) (z : Int32 × Nat × Int32 × Nat × Nat × Nat × (Nat → Nat) × (Nat → Nat → Nat) × Int32 × Nat × Nat × Nat × (Nat → Nat) × (Nat → Nat → Nat) × (Nat → Int32) × Nat) => match z with | (ks2, cur2, dti2, dnp2, dnq2, dnd2, dpu2, dP2, ti2, np2, nq2, nd2, pu2, P2, c2, cnt2) => ((rdA tx tl pu P).1 = (-9) → r = nI (100 * np2 + 10 * nq2 + nd2) ∧ (np2, nq2, nd2, pu2, P2) = (rdA tx tl pu P).2.2.2 ∧ c2 = beginF np2 (rdA tx tl pu P).2.1 pu2 ∧ cnt2 = 0 ∧ ks2 = nI 0) ∧ (¬ (rdA tx tl pu P).1 = (-9) → r = (-3) ∧ (np2, nq2, nd2, pu2, P2, c2, cnt2, ks2) = (np, nq, nd, pu, P, c, cnt, ks))) (fun (z : Int32 × Nat × Int32 × Nat × Nat × Nat × (Nat → Nat) × (Nat → Nat → Nat) × Int32 × Nat × Nat × Nat × (Nat → Nat) × (Nat → Nat → Nat) × (Nat → Int32) × Nat) => match z with | (ks2, cur2, dti2, dnp2, dnq2, dnd2, dpu2, dP2, ti2, np2, nq2, nd2, pu2, P2, c2, cnt2) => [(xo, o5 xt xp xd xn xa xc xs xk ks2 ch), (xt, .inr (4, [.ref xtb, .int (nI tl), .int (nI cur2)])), (xtb, .inl (cI, 48, .inl (fun k_ => nI (tx k_)))), (xd, o2 dr dti2 dnp2 dnq2 dnd2), (dr 0, .inl (cI, 3, .inl (fun k_ => nI (dpu2 k_)))), (dr 1, .inl (cI, 5, .inl (fun k_ => nI (dP2 0 k_)))), (dr 2, .inl (cI, 5, .inl (fun k_ => nI (dP2 1 k_)))), (dr 3, .inl (cI, 5, .inl (fun k_ => nI (dP2 2 k_)))), (dr 4, .inl (cI, 5, .inl (fun k_ => nI (dP2 3 k_)))), (dr 5, .inl (cI, 5, .inl (fun k_ => nI (dP2 4 k_)))), (dr 6, .inl (cI, 5, .inl (fun k_ => nI (dP2 5 k_)))), (xp, o2 r ti2 np2 nq2 nd2), (r 0, .inl (cI, 3, .inl (fun k_ => nI (pu2 k_)))), (r 1, .inl (cI, 5, .inl (fun k_ => nI (P2 0 k_)))), (r 2, .inl (cI, 5, .inl (fun k_ => nI (P2 1 k_)))), (r 3, .inl (cI, 5, .inl (fun k_ => nI (P2 2 k_)))), (r 4, .inl (cI, 5, .inl (fun k_ => nI (P2 3 k_)))), (r 5, .inl (cI, 5, .inl (fun k_ => nI (P2 4 k_)))), (r 6, .inl (cI, 5, .inl (fun k_ => nI (P2 5 k_)))), (xn, .inr (3, [.ref xp, .ref xnc])), (xnc, .inl (cI, 20, .inl c2)), (xc, .inr (0, [.ref xcb, .int (nI u), .int (nI cnt2)]))]) 0 0 := by
  refine g_startI (ret := (some .int)) (own := RX5) (lv0 := [(0, .ref xo)]) (by decide) rfl rfl (Nat.le_of_ble_eq_true rfl) rfl ?_
  intro p e s m args below meth cd A Q hin hr hQ hC
  have hcw2 : ∀ w ∈ wsX20, w ∈ wsX5_shop := fun _ h => List.mem_cons_of_mem _ (List.mem_append_left _ (List.mem_append_left _ (List.mem_append_left _ (List.mem_append_right _ h))))
  have hcw5 : ∀ w ∈ wsX50, w ∈ wsX5_shop := fun _ h => List.mem_cons_of_mem _ (List.mem_append_left _ (List.mem_append_left _ (List.mem_append_left _ (List.mem_append_left _ (List.mem_append_right _ h)))))
  have w1 := hC.1.2.2.2.2 (.fieldLink "PluckBroker" 12 "PluckBroker" "text" "LPluckBroker$Text;") (List.mem_of_getElem? (i := 1) rfl)
  have w2 := hC.1.2.2.2.2 (.fieldLink "PluckBroker" 23 "PluckBroker" "draft" "LPluckBroker$Plan;") (List.mem_of_getElem? (i := 2) rfl)
  have w3 := hC.1.2.2.2.2 (.fieldLink "PluckBroker" 19 "PluckBroker" "plan" "LPluckBroker$Plan;") (List.mem_of_getElem? (i := 3) rfl)
  have w4 := hC.1.2.2.2.2 (.fieldLink "PluckBroker" 31 "PluckBroker" "now" "LPluckBroker$State;") (List.mem_of_getElem? (i := 4) rfl)
  have w5 := hC.1.2.2.2.2 (.fieldLink "PluckBroker" 41 "PluckBroker" "acts" "LPluckBroker$Acts;") (List.mem_of_getElem? (i := 5) rfl)
  have w6 := hC.1.2.2.2.2 (.fieldLink "PluckBroker" 74 "PluckBroker" "keptSlots" "I") (List.mem_of_getElem? (i := 6) rfl)
  refine g_aload_n hC 0 dX5_shop_0 rfl rfl ?_
  refine g_get (C := RX5) (T := TX5) (N := 10) (ci := 5) (v := .ref xt) hC hcw5 0 rfl rfl 0 (by decide) w1 (fun _ h => h) rfl dX5_shop_1 ?_
  refine g_aload_n hC 0 dX5_shop_4 rfl rfl ?_
  refine g_get (C := RX5) (T := TX5) (N := 10) (ci := 5) (v := .ref xd) hC hcw5 0 rfl rfl 2 (by decide) w2 (fun _ h => h) rfl dX5_shop_5 ?_
  refine g_callVi (As := [.ref xd]) (rest := []) hC (c_X4_readInto l D cI cZ xt xtb tx tl cur xd dr dti dnp dnq dnd dpu dP (by first | assumption | omega) (by first | assumption | omega)) (cwV 1 hC.1.2.2.2.2 gX5_shop_X4_readInto rfl rfl rfl dV_X4_readInto ⟨Nat.le_of_ble_eq_true rfl, Nat.le_of_ble_eq_true rfl⟩) rfl rfl rfl rfl (Nat.le_of_ble_eq_true rfl) dX5_shop_8 ⟨Nat.le_of_ble_eq_true rfl, Nat.le_of_ble_eq_true rfl⟩ [1, 2, 3, 4, 5, 6, 7, 8, 9, 10] [0, 11, 12, 13, 14, 15, 16, 17, 18, 19, 20, 21] [0, 12, 13, 14, 15, 16, 17, 18, 19, 20, 21, 1, 2, 3, 4, 5, 6, 7, 8, 9, 10, 11] (fun (z : Int32 × Nat × Nat × Nat × Nat × (Nat → Nat) × (Nat → Nat → Nat)) => match z with | (ti2_1, cur2_2, np2_3, nq2_4, nd2_5, pu2_6, P2_7) => [(xo, o5 xt xp xd xn xa xc xs xk ks ch), (xt, .inr (4, [.ref xtb, .int (nI tl), .int (nI cur2_2)])), (xtb, .inl (cI, 48, .inl (fun k_ => nI (tx k_)))), (xd, o2 dr ti2_1 np2_3 nq2_4 nd2_5), (dr 0, .inl (cI, 3, .inl (fun k_ => nI (pu2_6 k_)))), (dr 1, .inl (cI, 5, .inl (fun k_ => nI (P2_7 0 k_)))), (dr 2, .inl (cI, 5, .inl (fun k_ => nI (P2_7 1 k_)))), (dr 3, .inl (cI, 5, .inl (fun k_ => nI (P2_7 2 k_)))), (dr 4, .inl (cI, 5, .inl (fun k_ => nI (P2_7 3 k_)))), (dr 5, .inl (cI, 5, .inl (fun k_ => nI (P2_7 4 k_)))), (dr 6, .inl (cI, 5, .inl (fun k_ => nI (P2_7 5 k_)))), (xp, o2 r ti np nq nd), (r 0, .inl (cI, 3, .inl (fun k_ => nI (pu k_)))), (r 1, .inl (cI, 5, .inl (fun k_ => nI (P 0 k_)))), (r 2, .inl (cI, 5, .inl (fun k_ => nI (P 1 k_)))), (r 3, .inl (cI, 5, .inl (fun k_ => nI (P 2 k_)))), (r 4, .inl (cI, 5, .inl (fun k_ => nI (P 3 k_)))), (r 5, .inl (cI, 5, .inl (fun k_ => nI (P 4 k_)))), (r 6, .inl (cI, 5, .inl (fun k_ => nI (P 5 k_)))), (xn, .inr (3, [.ref xp, .ref xnc])), (xnc, .inl (cI, 20, .inl c)), (xc, .inr (0, [.ref xcb, .int (nI u), .int (nI cnt)]))]) rfl rfl rfl (fun _ => rfl) (fun r8 z8 hp8 => ?_)
  obtain ⟨ti2_1, cur2_2, np2_3, nq2_4, nd2_5, pu2_6, P2_7⟩ := z8
  try dsimp only at hp8
  refine g_is (ws2 := [(xo, o5 xt xp xd xn xa xc xs xk ks ch), (xt, .inr (4, [.ref xtb, .int (nI tl), .int (nI cur2_2)])), (xtb, .inl (cI, 48, .inl (fun k_ => nI (tx k_)))), (xd, o2 dr ti2_1 np2_3 nq2_4 nd2_5), (dr 0, .inl (cI, 3, .inl (fun k_ => nI (pu2_6 k_)))), (dr 1, .inl (cI, 5, .inl (fun k_ => nI (P2_7 0 k_)))), (dr 2, .inl (cI, 5, .inl (fun k_ => nI (P2_7 1 k_)))), (dr 3, .inl (cI, 5, .inl (fun k_ => nI (P2_7 2 k_)))), (dr 4, .inl (cI, 5, .inl (fun k_ => nI (P2_7 3 k_)))), (dr 5, .inl (cI, 5, .inl (fun k_ => nI (P2_7 4 k_)))), (dr 6, .inl (cI, 5, .inl (fun k_ => nI (P2_7 5 k_)))), (xp, o2 r ti np nq nd), (r 0, .inl (cI, 3, .inl (fun k_ => nI (pu k_)))), (r 1, .inl (cI, 5, .inl (fun k_ => nI (P 0 k_)))), (r 2, .inl (cI, 5, .inl (fun k_ => nI (P 1 k_)))), (r 3, .inl (cI, 5, .inl (fun k_ => nI (P 2 k_)))), (r 4, .inl (cI, 5, .inl (fun k_ => nI (P 3 k_)))), (r 5, .inl (cI, 5, .inl (fun k_ => nI (P 4 k_)))), (r 6, .inl (cI, 5, .inl (fun k_ => nI (P 5 k_)))), (xn, .inr (3, [.ref xp, .ref xnc])), (xnc, .inl (cI, 20, .inl c)), (xc, .inr (0, [.ref xcb, .int (nI u), .int (nI cnt)]))]) (lv2 := [(0, .ref xo)]) (st2 := [.int r8]) rfl rfl rfl ?_
  refine g_bipush (v := (-9)) hC dX5_shop_11 (by decide +kernel) ?_
  refine g_icmp_eq hC 19 dX5_shop_13 (by decide) (fun h13t => ?_) (fun h13f => ?_)
  · refine g_aload_n hC 0 dX5_shop_19 rfl rfl ?_
    refine g_get (C := RX5) (T := TX5) (N := 10) (ci := 5) (v := .ref xt) hC hcw5 0 rfl rfl 0 (by decide) w1 (fun _ h => h) rfl dX5_shop_20 ?_
    refine g_aload_n hC 0 dX5_shop_23 rfl rfl ?_
    refine g_get (C := RX5) (T := TX5) (N := 10) (ci := 5) (v := .ref xp) hC hcw5 0 rfl rfl 1 (by decide) w3 (fun _ h => h) rfl dX5_shop_24 ?_
    refine g_callVi (As := [.ref xp]) (rest := []) hC (c_X4_readInto l D cI cZ xt xtb tx tl cur2_2 xp r ti np nq nd pu P (by first | assumption | omega) (by first | assumption | omega)) (cwV 1 hC.1.2.2.2.2 gX5_shop_X4_readInto rfl rfl rfl dV_X4_readInto ⟨Nat.le_of_ble_eq_true rfl, Nat.le_of_ble_eq_true rfl⟩) rfl rfl rfl rfl (Nat.le_of_ble_eq_true rfl) dX5_shop_27 ⟨Nat.le_of_ble_eq_true rfl, Nat.le_of_ble_eq_true rfl⟩ [1, 2, 11, 12, 13, 14, 15, 16, 17, 18] [0, 3, 4, 5, 6, 7, 8, 9, 10, 19, 20, 21] [0, 12, 13, 1, 2, 3, 4, 5, 6, 7, 8, 14, 15, 16, 17, 18, 19, 20, 21, 9, 10, 11] (fun (z : Int32 × Nat × Nat × Nat × Nat × (Nat → Nat) × (Nat → Nat → Nat)) => match z with | (ti2_8, cur2_9, np2_10, nq2_11, nd2_12, pu2_13, P2_14) => [(xo, o5 xt xp xd xn xa xc xs xk ks ch), (xt, .inr (4, [.ref xtb, .int (nI tl), .int (nI cur2_9)])), (xtb, .inl (cI, 48, .inl (fun k_ => nI (tx k_)))), (xd, o2 dr ti2_1 np2_3 nq2_4 nd2_5), (dr 0, .inl (cI, 3, .inl (fun k_ => nI (pu2_6 k_)))), (dr 1, .inl (cI, 5, .inl (fun k_ => nI (P2_7 0 k_)))), (dr 2, .inl (cI, 5, .inl (fun k_ => nI (P2_7 1 k_)))), (dr 3, .inl (cI, 5, .inl (fun k_ => nI (P2_7 2 k_)))), (dr 4, .inl (cI, 5, .inl (fun k_ => nI (P2_7 3 k_)))), (dr 5, .inl (cI, 5, .inl (fun k_ => nI (P2_7 4 k_)))), (dr 6, .inl (cI, 5, .inl (fun k_ => nI (P2_7 5 k_)))), (xp, o2 r ti2_8 np2_10 nq2_11 nd2_12), (r 0, .inl (cI, 3, .inl (fun k_ => nI (pu2_13 k_)))), (r 1, .inl (cI, 5, .inl (fun k_ => nI (P2_14 0 k_)))), (r 2, .inl (cI, 5, .inl (fun k_ => nI (P2_14 1 k_)))), (r 3, .inl (cI, 5, .inl (fun k_ => nI (P2_14 2 k_)))), (r 4, .inl (cI, 5, .inl (fun k_ => nI (P2_14 3 k_)))), (r 5, .inl (cI, 5, .inl (fun k_ => nI (P2_14 4 k_)))), (r 6, .inl (cI, 5, .inl (fun k_ => nI (P2_14 5 k_)))), (xn, .inr (3, [.ref xp, .ref xnc])), (xnc, .inl (cI, 20, .inl c)), (xc, .inr (0, [.ref xcb, .int (nI u), .int (nI cnt)]))]) rfl rfl rfl (fun _ => rfl) (fun r27 z27 hp27 => ?_)
    obtain ⟨ti2_8, cur2_9, np2_10, nq2_11, nd2_12, pu2_13, P2_14⟩ := z27
    try dsimp only at hp27
    refine g_is (ws2 := [(xo, o5 xt xp xd xn xa xc xs xk ks ch), (xt, .inr (4, [.ref xtb, .int (nI tl), .int (nI cur2_9)])), (xtb, .inl (cI, 48, .inl (fun k_ => nI (tx k_)))), (xd, o2 dr ti2_1 np2_3 nq2_4 nd2_5), (dr 0, .inl (cI, 3, .inl (fun k_ => nI (pu2_6 k_)))), (dr 1, .inl (cI, 5, .inl (fun k_ => nI (P2_7 0 k_)))), (dr 2, .inl (cI, 5, .inl (fun k_ => nI (P2_7 1 k_)))), (dr 3, .inl (cI, 5, .inl (fun k_ => nI (P2_7 2 k_)))), (dr 4, .inl (cI, 5, .inl (fun k_ => nI (P2_7 3 k_)))), (dr 5, .inl (cI, 5, .inl (fun k_ => nI (P2_7 4 k_)))), (dr 6, .inl (cI, 5, .inl (fun k_ => nI (P2_7 5 k_)))), (xp, o2 r ti2_8 np2_10 nq2_11 nd2_12), (r 0, .inl (cI, 3, .inl (fun k_ => nI (pu2_13 k_)))), (r 1, .inl (cI, 5, .inl (fun k_ => nI (P2_14 0 k_)))), (r 2, .inl (cI, 5, .inl (fun k_ => nI (P2_14 1 k_)))), (r 3, .inl (cI, 5, .inl (fun k_ => nI (P2_14 2 k_)))), (r 4, .inl (cI, 5, .inl (fun k_ => nI (P2_14 3 k_)))), (r 5, .inl (cI, 5, .inl (fun k_ => nI (P2_14 4 k_)))), (r 6, .inl (cI, 5, .inl (fun k_ => nI (P2_14 5 k_)))), (xn, .inr (3, [.ref xp, .ref xnc])), (xnc, .inl (cI, 20, .inl c)), (xc, .inr (0, [.ref xcb, .int (nI u), .int (nI cnt)]))]) (lv2 := [(0, .ref xo)]) (st2 := [.int r27]) rfl rfl rfl ?_
    obtain ⟨v9, hv9⟩ : ∃ x, x = (rdA tx tl pu P).2.1 := ⟨_, rfl⟩
    have hrd : (v9, cur2_9, np2_10, nq2_11, nd2_12, pu2_13, P2_14) = (rdA tx tl pu P).2 := Prod.ext hv9 hp27.2.2
    obtain ⟨hv5, hW2, hK2⟩ := rdA_ok tx tl pu P hrd
    obtain ⟨⟨hn1, hn2, hn3⟩, -, -⟩ := id hW2
    have efld : ti2_8 = nI v9 := by rw [hv9]; exact hp27.2.1
    refine g_ws (ws2 := [(xo, o5 xt xp xd xn xa xc xs xk ks ch), (xt, .inr (4, [.ref xtb, .int (nI tl), .int (nI cur2_9)])), (xtb, .inl (cI, 48, .inl (fun k_ => nI (tx k_)))), (xd, o2 dr ti2_1 np2_3 nq2_4 nd2_5), (dr 0, .inl (cI, 3, .inl (fun k_ => nI (pu2_6 k_)))), (dr 1, .inl (cI, 5, .inl (fun k_ => nI (P2_7 0 k_)))), (dr 2, .inl (cI, 5, .inl (fun k_ => nI (P2_7 1 k_)))), (dr 3, .inl (cI, 5, .inl (fun k_ => nI (P2_7 2 k_)))), (dr 4, .inl (cI, 5, .inl (fun k_ => nI (P2_7 3 k_)))), (dr 5, .inl (cI, 5, .inl (fun k_ => nI (P2_7 4 k_)))), (dr 6, .inl (cI, 5, .inl (fun k_ => nI (P2_7 5 k_)))), (xp, o2 r (nI v9) np2_10 nq2_11 nd2_12), (r 0, .inl (cI, 3, .inl (fun k_ => nI (pu2_13 k_)))), (r 1, .inl (cI, 5, .inl (fun k_ => nI (P2_14 0 k_)))), (r 2, .inl (cI, 5, .inl (fun k_ => nI (P2_14 1 k_)))), (r 3, .inl (cI, 5, .inl (fun k_ => nI (P2_14 2 k_)))), (r 4, .inl (cI, 5, .inl (fun k_ => nI (P2_14 3 k_)))), (r 5, .inl (cI, 5, .inl (fun k_ => nI (P2_14 4 k_)))), (r 6, .inl (cI, 5, .inl (fun k_ => nI (P2_14 5 k_)))), (xn, .inr (3, [.ref xp, .ref xnc])), (xnc, .inl (cI, 20, .inl c)), (xc, .inr (0, [.ref xcb, .int (nI u), .int (nI cnt)]))]) (congrArg (fun zz : Int32 => ([(xo, o5 xt xp xd xn xa xc xs xk ks ch), (xt, .inr (4, [.ref xtb, .int (nI tl), .int (nI cur2_9)])), (xtb, .inl (cI, 48, .inl (fun k_ => nI (tx k_)))), (xd, o2 dr ti2_1 np2_3 nq2_4 nd2_5), (dr 0, .inl (cI, 3, .inl (fun k_ => nI (pu2_6 k_)))), (dr 1, .inl (cI, 5, .inl (fun k_ => nI (P2_7 0 k_)))), (dr 2, .inl (cI, 5, .inl (fun k_ => nI (P2_7 1 k_)))), (dr 3, .inl (cI, 5, .inl (fun k_ => nI (P2_7 2 k_)))), (dr 4, .inl (cI, 5, .inl (fun k_ => nI (P2_7 3 k_)))), (dr 5, .inl (cI, 5, .inl (fun k_ => nI (P2_7 4 k_)))), (dr 6, .inl (cI, 5, .inl (fun k_ => nI (P2_7 5 k_)))), (xp, o2 r zz np2_10 nq2_11 nd2_12), (r 0, .inl (cI, 3, .inl (fun k_ => nI (pu2_13 k_)))), (r 1, .inl (cI, 5, .inl (fun k_ => nI (P2_14 0 k_)))), (r 2, .inl (cI, 5, .inl (fun k_ => nI (P2_14 1 k_)))), (r 3, .inl (cI, 5, .inl (fun k_ => nI (P2_14 2 k_)))), (r 4, .inl (cI, 5, .inl (fun k_ => nI (P2_14 3 k_)))), (r 5, .inl (cI, 5, .inl (fun k_ => nI (P2_14 4 k_)))), (r 6, .inl (cI, 5, .inl (fun k_ => nI (P2_14 5 k_)))), (xn, .inr (3, [.ref xp, .ref xnc])), (xnc, .inl (cI, 20, .inl c)), (xc, .inr (0, [.ref xcb, .int (nI u), .int (nI cnt)]))] : va_W)) efld) ?_
    refine g_pop hC dX5_shop_30 rfl ?_
    refine g_aload_n hC 0 dX5_shop_31 rfl rfl ?_
    refine g_get (C := RX5) (T := TX5) (N := 10) (ci := 5) (v := .ref xn) hC hcw5 0 rfl rfl 3 (by decide) w4 (fun _ h => h) rfl dX5_shop_32 ?_
    refine g_callVv (As := []) (rest := []) hC (c_X3_begin l D cI cZ xn xp xnc c r np2_10 nq2_11 nd2_12 v9 pu2_13 (by first | assumption | omega)) (cwV 0 hC.1.2.2.2.2 gX5_shop_X3_begin rfl rfl rfl dV_X3_begin ⟨Nat.le_of_ble_eq_true rfl, Nat.le_of_ble_eq_true rfl⟩) rfl rfl rfl rfl (Nat.le_of_ble_eq_true rfl) dX5_shop_35 ⟨Nat.le_of_ble_eq_true rfl, Nat.le_of_ble_eq_true rfl⟩ [19, 20, 11, 12] [0, 1, 2, 3, 4, 5, 6, 7, 8, 9, 10, 13, 14, 15, 16, 17, 18, 21] [0, 1, 2, 3, 4, 5, 6, 7, 8, 9, 10, 20, 21, 11, 12, 13, 14, 15, 16, 18, 19, 17] (fun (_ : Unit) => [(xo, o5 xt xp xd xn xa xc xs xk ks ch), (xt, .inr (4, [.ref xtb, .int (nI tl), .int (nI cur2_9)])), (xtb, .inl (cI, 48, .inl (fun k_ => nI (tx k_)))), (xd, o2 dr ti2_1 np2_3 nq2_4 nd2_5), (dr 0, .inl (cI, 3, .inl (fun k_ => nI (pu2_6 k_)))), (dr 1, .inl (cI, 5, .inl (fun k_ => nI (P2_7 0 k_)))), (dr 2, .inl (cI, 5, .inl (fun k_ => nI (P2_7 1 k_)))), (dr 3, .inl (cI, 5, .inl (fun k_ => nI (P2_7 2 k_)))), (dr 4, .inl (cI, 5, .inl (fun k_ => nI (P2_7 3 k_)))), (dr 5, .inl (cI, 5, .inl (fun k_ => nI (P2_7 4 k_)))), (dr 6, .inl (cI, 5, .inl (fun k_ => nI (P2_7 5 k_)))), (xp, o2 r (nI v9) np2_10 nq2_11 nd2_12), (r 0, .inl (cI, 3, .inl (fun k_ => nI (pu2_13 k_)))), (r 1, .inl (cI, 5, .inl (fun k_ => nI (P2_14 0 k_)))), (r 2, .inl (cI, 5, .inl (fun k_ => nI (P2_14 1 k_)))), (r 3, .inl (cI, 5, .inl (fun k_ => nI (P2_14 2 k_)))), (r 4, .inl (cI, 5, .inl (fun k_ => nI (P2_14 3 k_)))), (r 5, .inl (cI, 5, .inl (fun k_ => nI (P2_14 4 k_)))), (r 6, .inl (cI, 5, .inl (fun k_ => nI (P2_14 5 k_)))), (xn, .inr (3, [.ref xp, .ref xnc])), (xnc, .inl (cI, 20, .inl (beginF np2_10 v9 pu2_13))), (xc, .inr (0, [.ref xcb, .int (nI u), .int (nI cnt)]))]) rfl rfl rfl (fun _ => rfl) (fun z35 hp35 => ?_)
    refine g_is (ws2 := [(xo, o5 xt xp xd xn xa xc xs xk ks ch), (xt, .inr (4, [.ref xtb, .int (nI tl), .int (nI cur2_9)])), (xtb, .inl (cI, 48, .inl (fun k_ => nI (tx k_)))), (xd, o2 dr ti2_1 np2_3 nq2_4 nd2_5), (dr 0, .inl (cI, 3, .inl (fun k_ => nI (pu2_6 k_)))), (dr 1, .inl (cI, 5, .inl (fun k_ => nI (P2_7 0 k_)))), (dr 2, .inl (cI, 5, .inl (fun k_ => nI (P2_7 1 k_)))), (dr 3, .inl (cI, 5, .inl (fun k_ => nI (P2_7 2 k_)))), (dr 4, .inl (cI, 5, .inl (fun k_ => nI (P2_7 3 k_)))), (dr 5, .inl (cI, 5, .inl (fun k_ => nI (P2_7 4 k_)))), (dr 6, .inl (cI, 5, .inl (fun k_ => nI (P2_7 5 k_)))), (xp, o2 r (nI v9) np2_10 nq2_11 nd2_12), (r 0, .inl (cI, 3, .inl (fun k_ => nI (pu2_13 k_)))), (r 1, .inl (cI, 5, .inl (fun k_ => nI (P2_14 0 k_)))), (r 2, .inl (cI, 5, .inl (fun k_ => nI (P2_14 1 k_)))), (r 3, .inl (cI, 5, .inl (fun k_ => nI (P2_14 2 k_)))), (r 4, .inl (cI, 5, .inl (fun k_ => nI (P2_14 3 k_)))), (r 5, .inl (cI, 5, .inl (fun k_ => nI (P2_14 4 k_)))), (r 6, .inl (cI, 5, .inl (fun k_ => nI (P2_14 5 k_)))), (xn, .inr (3, [.ref xp, .ref xnc])), (xnc, .inl (cI, 20, .inl (beginF np2_10 v9 pu2_13))), (xc, .inr (0, [.ref xcb, .int (nI u), .int (nI cnt)]))]) (lv2 := [(0, .ref xo)]) (st2 := []) rfl rfl rfl ?_
    refine g_aload_n hC 0 dX5_shop_38 rfl rfl ?_
    refine g_get (C := RX5) (T := TX5) (N := 10) (ci := 5) (v := .ref xc) hC hcw5 0 rfl rfl 5 (by decide) w5 (fun _ h => h) rfl dX5_shop_39 ?_
    refine g_callVv (As := []) (rest := []) hC (c_X0_forget l D cI cZ xc xcb u cnt) (cwV 0 hC.1.2.2.2.2 gX5_shop_X0_forget rfl rfl rfl dV_X0_forget ⟨Nat.le_of_ble_eq_true rfl, Nat.le_of_ble_eq_true rfl⟩) rfl rfl rfl rfl (Nat.le_of_ble_eq_true rfl) dX5_shop_42 ⟨Nat.le_of_ble_eq_true rfl, Nat.le_of_ble_eq_true rfl⟩ [21] [0, 1, 2, 3, 4, 5, 6, 7, 8, 9, 10, 11, 12, 13, 14, 15, 16, 17, 18, 19, 20] [0, 1, 2, 3, 4, 5, 6, 7, 8, 9, 10, 11, 12, 13, 14, 15, 16, 17, 18, 19, 20, 21] (fun (_ : Unit) => [(xo, o5 xt xp xd xn xa xc xs xk ks ch), (xt, .inr (4, [.ref xtb, .int (nI tl), .int (nI cur2_9)])), (xtb, .inl (cI, 48, .inl (fun k_ => nI (tx k_)))), (xd, o2 dr ti2_1 np2_3 nq2_4 nd2_5), (dr 0, .inl (cI, 3, .inl (fun k_ => nI (pu2_6 k_)))), (dr 1, .inl (cI, 5, .inl (fun k_ => nI (P2_7 0 k_)))), (dr 2, .inl (cI, 5, .inl (fun k_ => nI (P2_7 1 k_)))), (dr 3, .inl (cI, 5, .inl (fun k_ => nI (P2_7 2 k_)))), (dr 4, .inl (cI, 5, .inl (fun k_ => nI (P2_7 3 k_)))), (dr 5, .inl (cI, 5, .inl (fun k_ => nI (P2_7 4 k_)))), (dr 6, .inl (cI, 5, .inl (fun k_ => nI (P2_7 5 k_)))), (xp, o2 r (nI v9) np2_10 nq2_11 nd2_12), (r 0, .inl (cI, 3, .inl (fun k_ => nI (pu2_13 k_)))), (r 1, .inl (cI, 5, .inl (fun k_ => nI (P2_14 0 k_)))), (r 2, .inl (cI, 5, .inl (fun k_ => nI (P2_14 1 k_)))), (r 3, .inl (cI, 5, .inl (fun k_ => nI (P2_14 2 k_)))), (r 4, .inl (cI, 5, .inl (fun k_ => nI (P2_14 3 k_)))), (r 5, .inl (cI, 5, .inl (fun k_ => nI (P2_14 4 k_)))), (r 6, .inl (cI, 5, .inl (fun k_ => nI (P2_14 5 k_)))), (xn, .inr (3, [.ref xp, .ref xnc])), (xnc, .inl (cI, 20, .inl (beginF np2_10 v9 pu2_13))), (xc, .inr (0, [.ref xcb, .int (nI u), .int (nI 0)]))]) rfl rfl rfl (fun _ => rfl) (fun z42 hp42 => ?_)
    refine g_is (ws2 := [(xo, o5 xt xp xd xn xa xc xs xk ks ch), (xt, .inr (4, [.ref xtb, .int (nI tl), .int (nI cur2_9)])), (xtb, .inl (cI, 48, .inl (fun k_ => nI (tx k_)))), (xd, o2 dr ti2_1 np2_3 nq2_4 nd2_5), (dr 0, .inl (cI, 3, .inl (fun k_ => nI (pu2_6 k_)))), (dr 1, .inl (cI, 5, .inl (fun k_ => nI (P2_7 0 k_)))), (dr 2, .inl (cI, 5, .inl (fun k_ => nI (P2_7 1 k_)))), (dr 3, .inl (cI, 5, .inl (fun k_ => nI (P2_7 2 k_)))), (dr 4, .inl (cI, 5, .inl (fun k_ => nI (P2_7 3 k_)))), (dr 5, .inl (cI, 5, .inl (fun k_ => nI (P2_7 4 k_)))), (dr 6, .inl (cI, 5, .inl (fun k_ => nI (P2_7 5 k_)))), (xp, o2 r (nI v9) np2_10 nq2_11 nd2_12), (r 0, .inl (cI, 3, .inl (fun k_ => nI (pu2_13 k_)))), (r 1, .inl (cI, 5, .inl (fun k_ => nI (P2_14 0 k_)))), (r 2, .inl (cI, 5, .inl (fun k_ => nI (P2_14 1 k_)))), (r 3, .inl (cI, 5, .inl (fun k_ => nI (P2_14 2 k_)))), (r 4, .inl (cI, 5, .inl (fun k_ => nI (P2_14 3 k_)))), (r 5, .inl (cI, 5, .inl (fun k_ => nI (P2_14 4 k_)))), (r 6, .inl (cI, 5, .inl (fun k_ => nI (P2_14 5 k_)))), (xn, .inr (3, [.ref xp, .ref xnc])), (xnc, .inl (cI, 20, .inl (beginF np2_10 v9 pu2_13))), (xc, .inr (0, [.ref xcb, .int (nI u), .int (nI 0)]))]) (lv2 := [(0, .ref xo)]) (st2 := []) rfl rfl rfl ?_
    refine g_aload_n hC 0 dX5_shop_45 rfl rfl ?_
    refine g_iconst (v := nI 0) hC dX5_shop_46 rfl ?_
    refine g_put (C := RX5) (T := TX5) (N := 10) (ci := 5) (v := .int (nI 0)) hC hcw5 tyX5 tyX5_ok nmX5 0 rfl rfl 8 (by decide) w6 (fun _ h => h) rfl (tyX5_ok 8 (by decide)) rfl rfl (Nat.le_of_ble_eq_true rfl) [(xo, o5 xt xp xd xn xa xc xs xk (nI 0) ch), (xt, .inr (4, [.ref xtb, .int (nI tl), .int (nI cur2_9)])), (xtb, .inl (cI, 48, .inl (fun k_ => nI (tx k_)))), (xd, o2 dr ti2_1 np2_3 nq2_4 nd2_5), (dr 0, .inl (cI, 3, .inl (fun k_ => nI (pu2_6 k_)))), (dr 1, .inl (cI, 5, .inl (fun k_ => nI (P2_7 0 k_)))), (dr 2, .inl (cI, 5, .inl (fun k_ => nI (P2_7 1 k_)))), (dr 3, .inl (cI, 5, .inl (fun k_ => nI (P2_7 2 k_)))), (dr 4, .inl (cI, 5, .inl (fun k_ => nI (P2_7 3 k_)))), (dr 5, .inl (cI, 5, .inl (fun k_ => nI (P2_7 4 k_)))), (dr 6, .inl (cI, 5, .inl (fun k_ => nI (P2_7 5 k_)))), (xp, o2 r (nI v9) np2_10 nq2_11 nd2_12), (r 0, .inl (cI, 3, .inl (fun k_ => nI (pu2_13 k_)))), (r 1, .inl (cI, 5, .inl (fun k_ => nI (P2_14 0 k_)))), (r 2, .inl (cI, 5, .inl (fun k_ => nI (P2_14 1 k_)))), (r 3, .inl (cI, 5, .inl (fun k_ => nI (P2_14 2 k_)))), (r 4, .inl (cI, 5, .inl (fun k_ => nI (P2_14 3 k_)))), (r 5, .inl (cI, 5, .inl (fun k_ => nI (P2_14 4 k_)))), (r 6, .inl (cI, 5, .inl (fun k_ => nI (P2_14 5 k_)))), (xn, .inr (3, [.ref xp, .ref xnc])), (xnc, .inl (cI, 20, .inl (beginF np2_10 v9 pu2_13))), (xc, .inr (0, [.ref xcb, .int (nI u), .int (nI 0)]))] rfl dX5_shop_47 ?_
    refine g_bipush (v := nI 100) hC dX5_shop_50 (by decide +kernel) ?_
    refine g_aload_n hC 0 dX5_shop_52 rfl rfl ?_
    refine g_get (C := RX5) (T := TX5) (N := 10) (ci := 5) (v := .ref xp) hC hcw5 0 rfl rfl 1 (by decide) w3 (fun _ h => h) rfl dX5_shop_53 ?_
    refine g_getN (C := RX2) (T := TX2) (N := 11) (ci := 2) (v := .int (nI np2_10)) hC hcw2 11 rfl rfl 8 (by decide) (hC.2.2.1.f 5 rfl) (fun _ h => h) rfl dX5_shop_56 ?_
    refine g_imul_n (a := 100) (b := np2_10) hC dX5_shop_59 ?_
    refine g_bipush (v := nI 10) hC dX5_shop_60 (by decide +kernel) ?_
    refine g_aload_n hC 0 dX5_shop_62 rfl rfl ?_
    refine g_get (C := RX5) (T := TX5) (N := 10) (ci := 5) (v := .ref xp) hC hcw5 0 rfl rfl 1 (by decide) w3 (fun _ h => h) rfl dX5_shop_63 ?_
    refine g_getN (C := RX2) (T := TX2) (N := 11) (ci := 2) (v := .int (nI nq2_11)) hC hcw2 11 rfl rfl 9 (by decide) (hC.2.2.1.f 7 rfl) (fun _ h => h) rfl dX5_shop_66 ?_
    refine g_imul_n (a := 10) (b := nq2_11) hC dX5_shop_69 ?_
    refine g_iadd_n (a := (100 * np2_10)) (b := (10 * nq2_11)) hC dX5_shop_70 ?_
    refine g_aload_n hC 0 dX5_shop_71 rfl rfl ?_
    refine g_get (C := RX5) (T := TX5) (N := 10) (ci := 5) (v := .ref xp) hC hcw5 0 rfl rfl 1 (by decide) w3 (fun _ h => h) rfl dX5_shop_72 ?_
    refine g_getN (C := RX2) (T := TX2) (N := 11) (ci := 2) (v := .int (nI nd2_12)) hC hcw2 11 rfl rfl 10 (by decide) (hC.2.2.1.f 10 rfl) (fun _ h => h) rfl dX5_shop_75 ?_
    refine g_iadd_n (a := (100 * np2_10 + (10 * nq2_11))) (b := nd2_12) hC dX5_shop_78 ?_
    subst hQ
    refine g_iret (v := nI (100 * np2_10 + (10 * nq2_11) + nd2_12)) hC (nI 0, cur2_9, ti2_1, np2_3, nq2_4, nd2_5, pu2_6, P2_7, nI v9, np2_10, nq2_11, nd2_12, pu2_13, P2_14, beginF np2_10 v9 pu2_13, 0) hr ?_ rfl dX5_shop_79
    have hy : (rdA tx tl pu P).1 = (-9) := by rw [rdA_ind tx tl pu dpu P dP, ← hp8.1]; exact h13t
    exact ⟨fun _ => ⟨rfl, congrArg Prod.snd hp27.2.2, by rw [← hv9], rfl, rfl⟩, fun q => absurd hy q⟩
  refine g_bipush (v := (-3)) hC dX5_shop_16 (by decide +kernel) ?_
  subst hQ
  refine g_iret (v := -3) hC (ks, cur2_2, ti2_1, np2_3, nq2_4, nd2_5, pu2_6, P2_7, ti, np, nq, nd, pu, P, c, cnt) hr ?_ rfl dX5_shop_18
  have hn : ¬ (rdA tx tl pu P).1 = (-9) := by rw [rdA_ind tx tl pu dpu P dP, ← hp8.1]; exact h13f
  exact ⟨fun q => absurd q hn, fun _ => ⟨rfl, rfl⟩⟩
