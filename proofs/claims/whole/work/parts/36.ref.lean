abbrev rm_X6_undo : Room := { frames := 0, cells := 0, slots := 0, locals := 0 }
set_option maxRecDepth 100000 in
set_option maxHeartbeats 4000000 in
theorem c_X6_undo (l : Launch) (D : va_G) (cI cZ : ClassId) (mo : Nat) (rm : Nat → Nat) (tl : Nat) (pl : Int32) (np : Nat) (nq : Nat) (nd : Nat) (rt : Int32) (rp : Int32) (rq : Int32) (rd : Int32) (cnt : Nat) (na : Nat) (sd : Int64) (rw : Int32) (rx : Int32) (tm : Int32) (tf : Int32) (sm : Int32) (sf : Int32) (c : Nat → Int32) (bk : Nat → Int32) (f : Nat → Int32) (u : Nat) (hcnt : cnt ≤ 14) (hB : ∀ j, j < 20 → 0 < cnt → bk (20 * (cnt - 1) + j) = mp (loadF f (ringD u)) j) : CtI l yX6_undo wsX6_undo rm_X6_undo D cI cZ [.ref mo] [(mo, o6 rm (nI tl) pl (nI np) (nI nq) (nI nd) rt rp rq rd (nI cnt) (nI na) sd rw rx tm tf sm sf), (rm 10, .inl (cI, 20, .inl (mp c))), (rm 12, .inl (cI, 280, .inl bk))] (fun (r : Int32) (z : (Nat → Int32) × Nat) => match z with | (c2, cnt2) => (r, c2, cnt2) = if cnt = 0 then ((-3), c, cnt) else (nI (cnt - 1), loadF f (ringD u), cnt - 1)) (fun (z : (Nat → Int32) × Nat) => match z with | (c2, cnt2) => [(mo, o6 rm (nI tl) pl (nI np) (nI nq) (nI nd) rt rp rq rd (nI cnt2) (nI na) sd rw rx tm tf sm sf), (rm 10, .inl (cI, 20, .inl (mp c2))), (rm 12, .inl (cI, 280, .inl bk))]) 0 0 := by
  refine g_startI (ret := (some .int)) (own := RX6) (lv0 := [(0, .ref mo)]) (by decide) rfl rfl (Nat.le_of_ble_eq_true rfl) rfl ?_
  intro p e s m args below meth cd A Q hin hr hQ hC
  have hcw6 : ∀ w ∈ wsX60, w ∈ wsX6_undo := fun _ h => List.mem_cons_of_mem _ (List.mem_append_right _ h)
  have w1 := hC.1.2.2.2.2 (.fieldLink "PluckBrokerModel" 68 "PluckBrokerModel" "thrown" "I") (List.mem_of_getElem? (i := 1) rfl)
  have w2 := hC.1.2.2.2.2 (.fieldLink "PluckBrokerModel" 126 "PluckBrokerModel" "acts" "I") (List.mem_of_getElem? (i := 2) rfl)
  have w3 := hC.1.2.2.2.2 (.fieldLink "PluckBrokerModel" 40 "PluckBrokerModel" "page" "[I") (List.mem_of_getElem? (i := 3) rfl)
  have w4 := hC.1.2.2.2.2 (.fieldLink "PluckBrokerModel" 46 "PluckBrokerModel" "book" "[I") (List.mem_of_getElem? (i := 4) rfl)
  refine g_aload_n hC 0 dX6_undo_0 rfl rfl ?_
  refine g_iconst (v := nI 0) hC dX6_undo_1 rfl ?_
  refine g_put (C := RX6) (T := TX6) (N := 38) (ci := 6) (v := .int (nI 0)) hC hcw6 tyX6 tyX6_ok nmX6 0 rfl rfl 0 (by decide) w1 (fun _ h => h) rfl (tyX6_ok 0 (by decide)) rfl rfl (Nat.le_of_ble_eq_true rfl) [(mo, o6 rm (nI tl) pl (nI np) (nI nq) (nI nd) rt rp rq rd (nI cnt) (nI na) sd rw rx tm tf sm sf), (rm 10, .inl (cI, 20, .inl (mp c))), (rm 12, .inl (cI, 280, .inl bk))] rfl dX6_undo_2 ?_
  refine g_aload_n hC 0 dX6_undo_5 rfl rfl ?_
  refine g_get (C := RX6) (T := TX6) (N := 38) (ci := 6) (v := .int (nI cnt)) hC hcw6 0 rfl rfl 23 (by decide) w2 (fun _ h => h) rfl dX6_undo_6 ?_
  refine g_if_ne_n (a := cnt) hC (by omega) 15 dX6_undo_9 (by decide) (fun h9t => ?_) (fun h9f => ?_)
  · refine g_aload_n hC 0 dX6_undo_15 rfl rfl ?_
    refine g_dup hC dX6_undo_16 rfl ?_
    refine g_get (C := RX6) (T := TX6) (N := 38) (ci := 6) (v := .int (nI cnt)) hC hcw6 0 rfl rfl 23 (by decide) w2 (fun _ h => h) rfl dX6_undo_17 ?_
    refine g_iconst (v := nI 1) hC dX6_undo_20 rfl ?_
    refine g_isub_n (a := cnt) (b := 1) hC (by omega) dX6_undo_21 ?_
    refine g_put (C := RX6) (T := TX6) (N := 38) (ci := 6) (v := .int (nI (cnt - 1))) hC hcw6 tyX6 tyX6_ok nmX6 0 rfl rfl 23 (by decide) w2 (fun _ h => h) rfl (tyX6_ok 23 (by decide)) rfl rfl (Nat.le_of_ble_eq_true rfl) [(mo, o6 rm (nI tl) pl (nI np) (nI nq) (nI nd) rt rp rq rd (nI (cnt - 1)) (nI na) sd rw rx tm tf sm sf), (rm 10, .inl (cI, 20, .inl (mp c))), (rm 12, .inl (cI, 280, .inl bk))] rfl dX6_undo_22 ?_
    refine g_iconst (v := nI 0) hC dX6_undo_25 rfl ?_
    refine g_istore_n (lv' := [(0, .ref mo), (1, .int (nI 0))]) hC [1, 0] dX6_undo_26 rfl (by decide) rfl ?_
    have L27 : ∀ (n : Nat) (i : Nat) (pp : Nat → Int32), (i ≤ 20) → (pp = wrG (mp c) 0 (fun k_ => bk (20 * (cnt - 1) + k_)) i) → 20 - i < n → G p l e rm_X6_undo s m args below meth cd D A 0 0 Q 2 [(mo, o6 rm (nI tl) pl (nI np) (nI nq) (nI nd) rt rp rq rd (nI (cnt - 1)) (nI na) sd rw rx tm tf sm sf), (rm 10, .inl (cI, 20, .inl pp)), (rm 12, .inl (cI, 280, .inl bk))] 27 [(0, .ref mo), (1, .int (nI i))] [] := by
      intro n
      induction n with
      | zero => intro i pp hi hpp hn; exact absurd hn (Nat.not_lt_zero _)
      | succ n ih27 =>
        intro i pp hi hpp hn
        refine g_iload_n hC 1 dX6_undo_27 rfl rfl ?_
        refine g_bipush (v := nI 20) hC dX6_undo_28 (by decide +kernel) ?_
        refine g_icmp_ge_n (a := i) (b := 20) hC (by omega) (by omega) 59 dX6_undo_30 (by decide) (fun h30t => ?_) (fun h30f => ?_)
        · have ei : i = 20 := by omega
          rw [ei] at hpp
          refine g_arr (f2 := (mp (loadF f (ringD u)))) 1 rfl (fun j hj => by rw [hpp, wrG_at, if_pos (by omega), Nat.sub_zero]; exact hB j hj (by omega)) [(mo, o6 rm (nI tl) pl (nI np) (nI nq) (nI nd) rt rp rq rd (nI (cnt - 1)) (nI na) sd rw rx tm tf sm sf), (rm 10, .inl (cI, 20, .inl (mp (loadF f (ringD u))))), (rm 12, .inl (cI, 280, .inl bk))] rfl ?_
          refine g_aload_n hC 0 dX6_undo_59 rfl rfl ?_
          refine g_get (C := RX6) (T := TX6) (N := 38) (ci := 6) (v := .int (nI (cnt - 1))) hC hcw6 0 rfl rfl 23 (by decide) w2 (fun _ h => h) rfl dX6_undo_60 ?_
          subst hQ
          refine g_iret (v := nI (cnt - 1)) hC (loadF f (ringD u), cnt - 1) hr ?_ rfl dX6_undo_63
          rw [if_neg h9t]
        refine g_aload_n hC 0 dX6_undo_33 rfl rfl ?_
        refine g_get (C := RX6) (T := TX6) (N := 38) (ci := 6) (v := .ref (rm 10)) hC hcw6 0 rfl rfl 20 (by decide) w3 (fun _ h => h) rfl dX6_undo_34 ?_
        refine g_iload_n hC 1 dX6_undo_37 rfl rfl ?_
        refine g_aload_n hC 0 dX6_undo_38 rfl rfl ?_
        refine g_get (C := RX6) (T := TX6) (N := 38) (ci := 6) (v := .ref (rm 12)) hC hcw6 0 rfl rfl 22 (by decide) w4 (fun _ h => h) rfl dX6_undo_39 ?_
        refine g_bipush (v := nI 20) hC dX6_undo_42 (by decide +kernel) ?_
        refine g_aload_n hC 0 dX6_undo_44 rfl rfl ?_
        refine g_get (C := RX6) (T := TX6) (N := 38) (ci := 6) (v := .int (nI (cnt - 1))) hC hcw6 0 rfl rfl 23 (by decide) w2 (fun _ h => h) rfl dX6_undo_45 ?_
        refine g_imul_n (a := 20) (b := (cnt - 1)) hC dX6_undo_48 ?_
        refine g_iload_n hC 1 dX6_undo_49 rfl rfl ?_
        refine g_iadd_n (a := (20 * (cnt - 1))) (b := i) hC dX6_undo_50 ?_
        refine g_iald hC 2 rfl (20 * (cnt - 1) + i) rfl (by omega) (by decide) dX6_undo_51 ?_
        refine g_iast hC 1 rfl i rfl (by omega) (by decide) [(mo, o6 rm (nI tl) pl (nI np) (nI nq) (nI nd) rt rp rq rd (nI (cnt - 1)) (nI na) sd rw rx tm tf sm sf), (rm 10, .inl (cI, 20, .inl (upd pp i (bk (20 * (cnt - 1) + i))))), (rm 12, .inl (cI, 280, .inl bk))] rfl dX6_undo_52 ?_
        refine g_iinc (v := nI (i + 1)) (lv' := [(0, .ref mo), (1, .int (nI (i + 1)))]) hC 1 [1, 0] dX6_undo_53 rfl (nI_add _ 1) (by decide) rfl ?_
        refine g_goto hC 27 dX6_undo_56 (by decide) ?_
        refine ih27 (i + 1) (upd pp i (bk (20 * (cnt - 1) + i))) ?_ ?_ ?_
        · omega
        · show upd pp i (bk (20 * (cnt - 1) + i)) = upd (wrG (mp c) 0 (fun k_ => bk (20 * (cnt - 1) + k_)) i) (0 + i) (bk (20 * (cnt - 1) + i))
          rw [Nat.zero_add, hpp]
        · omega
    refine L27 _ 0 (mp c) ?_ ?_ (Nat.lt_succ_self _)
    · omega
    · rfl
  refine g_bipush (v := (-3)) hC dX6_undo_12 (by decide +kernel) ?_
  subst hQ
  refine g_iret (v := -3) hC (c, cnt) hr ?_ rfl dX6_undo_14
  rw [if_pos h9f]

abbrev rm_X6_due : Room := { frames := 2, cells := 0, slots := 0, locals := 46 }
set_option maxRecDepth 100000 in
set_option maxHeartbeats 4000000 in
theorem c_X6_due (l : Launch) (D : va_G) (cI cZ : ClassId) (mo : Nat) (rm : Nat → Nat) (tl : Nat) (pl : Int32) (np : Nat) (nq : Nat) (nd : Nat) (rt : Int32) (rp : Int32) (rq : Int32) (rd : Int32) (cnt : Nat) (na : Nat) (sd : Int64) (rw : Int32) (rx : Int32) (tm : Int32) (tf : Int32) (sm : Int32) (sf : Int32) (P : Nat → Nat → Nat) (c : Nat → Int32) (g : Nat → Int32) (t : Nat) (a : Int32) (b : Int32) (hW : WFP np nq nd P) (hFr : Fr P nd c t) (ht : t ≤ 200) : CtI l yX6_due wsX6_due rm_X6_due D cI cZ [.ref mo, .int a, .int b] [(mo, o6 rm (nI tl) pl (nI np) (nI nq) (nI nd) rt rp rq rd (nI cnt) (nI na) sd rw rx tm tf sm sf), (rm 1, .inl (cI, 5, .inl (fun k_ => nI (P 0 k_)))), (rm 2, .inl (cI, 5, .inl (fun k_ => nI (P 1 k_)))), (rm 3, .inl (cI, 5, .inl (fun k_ => nI (P 2 k_)))), (rm 4, .inl (cI, 5, .inl (fun k_ => nI (P 3 k_)))), (rm 5, .inl (cI, 5, .inl (fun k_ => nI (P 4 k_)))), (rm 6, .inl (cI, 5, .inl (fun k_ => nI (P 5 k_)))), (rm 10, .inl (cI, 20, .inl (mp c))), (rm 11, .inl (cI, 20, .inl (mp g)))] (fun (r : Int32) (g2 : (Nat → Int32)) => r = dueR nq nd P c a b) (fun (g2 : (Nat → Int32)) => [(mo, o6 rm (nI tl) pl (nI np) (nI nq) (nI nd) rt rp rq rd (nI cnt) (nI na) sd rw rx tm tf sm sf), (rm 1, .inl (cI, 5, .inl (fun k_ => nI (P 0 k_)))), (rm 2, .inl (cI, 5, .inl (fun k_ => nI (P 1 k_)))), (rm 3, .inl (cI, 5, .inl (fun k_ => nI (P 2 k_)))), (rm 4, .inl (cI, 5, .inl (fun k_ => nI (P 3 k_)))), (rm 5, .inl (cI, 5, .inl (fun k_ => nI (P 4 k_)))), (rm 6, .inl (cI, 5, .inl (fun k_ => nI (P 5 k_)))), (rm 10, .inl (cI, 20, .inl (mp c))), (rm 11, .inl (cI, 20, .inl (mp g2)))]) 0 0 := by
  refine g_startI (ret := (some .int)) (own := RX6) (lv0 := [(0, .ref mo), (1, .int a), (2, .int b)]) (by decide) rfl rfl (Nat.le_of_ble_eq_true rfl) rfl ?_
  intro p e s m args below meth cd A Q hin hr hQ hC
  have hcw6 : ∀ w ∈ wsX60, w ∈ wsX6_due := fun _ h => List.mem_cons_of_mem _ (List.mem_append_right _ h)
  have w1 := hC.1.2.2.2.2 (.fieldLink "PluckBrokerModel" 68 "PluckBrokerModel" "thrown" "I") (List.mem_of_getElem? (i := 1) rfl)
  have w2 := hC.1.2.2.2.2 (.constantLong "PluckBrokerModel" 186 20) (List.mem_of_getElem? (i := 2) rfl)
  have w3 := hC.1.2.2.2.2 (.fieldLink "PluckBrokerModel" 43 "PluckBrokerModel" "trial" "[I") (List.mem_of_getElem? (i := 3) rfl)
  obtain ⟨⟨hnp, hnq, hnd⟩, hq4, hd5⟩ := id hW
  refine g_aload_n hC 0 dX6_due_0 rfl rfl ?_
  refine g_iconst (v := nI 0) hC dX6_due_1 rfl ?_
  refine g_put (C := RX6) (T := TX6) (N := 38) (ci := 6) (v := .int (nI 0)) hC hcw6 tyX6 tyX6_ok nmX6 0 rfl rfl 0 (by decide) w1 (fun _ h => h) rfl (tyX6_ok 0 (by decide)) rfl rfl (Nat.le_of_ble_eq_true rfl) [(mo, o6 rm (nI tl) pl (nI np) (nI nq) (nI nd) rt rp rq rd (nI cnt) (nI na) sd rw rx tm tf sm sf), (rm 1, .inl (cI, 5, .inl (fun k_ => nI (P 0 k_)))), (rm 2, .inl (cI, 5, .inl (fun k_ => nI (P 1 k_)))), (rm 3, .inl (cI, 5, .inl (fun k_ => nI (P 2 k_)))), (rm 4, .inl (cI, 5, .inl (fun k_ => nI (P 3 k_)))), (rm 5, .inl (cI, 5, .inl (fun k_ => nI (P 4 k_)))), (rm 6, .inl (cI, 5, .inl (fun k_ => nI (P 5 k_)))), (rm 10, .inl (cI, 20, .inl (mp c))), (rm 11, .inl (cI, 20, .inl (mp g)))] rfl dX6_due_2 ?_
  refine g_aload_n hC 0 dX6_due_5 rfl rfl ?_
  refine g_iload_n hC 1 dX6_due_6 rfl rfl ?_
  refine g_callVip (As := [.int a]) (rest := []) hC (bI (¬ inR a nq)) (c_X6_noQuality l D cI cZ mo rm tl pl np nq nd rt rp rq rd cnt na sd rw rx tm tf sm sf a (by omega)) (cwV 1 hC.1.2.2.2.2 gX6_due_X6_noQuality rfl rfl rfl dV_X6_noQuality ⟨Nat.le_of_ble_eq_true rfl, Nat.le_of_ble_eq_true rfl⟩) rfl rfl rfl rfl (Nat.le_of_ble_eq_true rfl) dX6_due_7 ⟨Nat.le_of_ble_eq_true rfl, Nat.le_of_ble_eq_true rfl⟩ [0] rfl rfl ?_
  refine g_if_eq_b hC 15 dX6_due_10 (by decide) (fun h10t => ?_) (fun h10f => ?_)
  · obtain ⟨k, hk, rfl⟩ := inR_n (by omega) (Decidable.not_not.mp h10t)
    have hin2 := inR_k (n := nq) (by omega) hk
    have hKk : K (nI k) = k := K_n (by omega)
    refine g_iload_n hC 2 dX6_due_15 rfl rfl ?_
    refine g_i2l hC dX6_due_16 rfl ?_
    refine g_lconst (v := (nI 0).toInt64) hC dX6_due_17 (by decide +kernel) ?_
    refine g_ldc2 (v := 20) hC w2 dX6_due_18 ?_
    refine g_topl (y := (nI 20).toInt64) (by decide +kernel) ?_
    refine g_callSip (As := [.long b.toInt64, .long ((nI 0).toInt64), .long ((nI 20).toInt64)]) (rest := []) hC (bI ((nI 0) ≤ b ∧ b ≤ (nI 20))) (c_X6_in l D cI cZ b (nI 0) (nI 20)) (va_cwS 3 hC.1.2.2.2.2 gX6_due_X6_in rfl rfl rfl dS_X6_in ⟨Nat.le_of_ble_eq_true rfl, Nat.le_of_ble_eq_true rfl⟩) rfl rfl (Nat.le_of_ble_eq_true rfl) dX6_due_21 ⟨Nat.le_of_ble_eq_true rfl, Nat.le_of_ble_eq_true rfl⟩ [] rfl rfl ?_
    refine g_if_ne_b hC 30 dX6_due_24 (by decide) (fun h24t => ?_) (fun h24f => ?_)
    · obtain ⟨dn, hdn, rfl⟩ := ok_n (M := 20) (by decide) h24t
      have okb : okN (nI dn) := ok_k (M := 20) (by decide) hdn
      have hKb : K (nI dn) = dn := K_n (by omega)
      refine g_aload_n hC 0 dX6_due_30 rfl rfl ?_
      refine g_callVv (As := []) (rest := []) hC (c_X6_begin l D cI cZ mo rm tl pl np nq nd rt rp rq rd cnt na sd rw rx tm tf sm sf c g) (cwV 0 hC.1.2.2.2.2 gX6_due_X6_begin rfl rfl rfl dV_X6_begin ⟨Nat.le_of_ble_eq_true rfl, Nat.le_of_ble_eq_true rfl⟩) rfl rfl rfl rfl (Nat.le_of_ble_eq_true rfl) dX6_due_31 ⟨Nat.le_of_ble_eq_true rfl, Nat.le_of_ble_eq_true rfl⟩ [0, 7, 8] [1, 2, 3, 4, 5, 6] [6, 0, 1, 2, 3, 4, 5, 7, 8] (fun (_ : Unit) => [(mo, o6 rm (nI tl) pl (nI np) (nI nq) (nI nd) rt rp rq rd (nI cnt) (nI na) sd rw rx tm tf sm sf), (rm 1, .inl (cI, 5, .inl (fun k_ => nI (P 0 k_)))), (rm 2, .inl (cI, 5, .inl (fun k_ => nI (P 1 k_)))), (rm 3, .inl (cI, 5, .inl (fun k_ => nI (P 2 k_)))), (rm 4, .inl (cI, 5, .inl (fun k_ => nI (P 3 k_)))), (rm 5, .inl (cI, 5, .inl (fun k_ => nI (P 4 k_)))), (rm 6, .inl (cI, 5, .inl (fun k_ => nI (P 5 k_)))), (rm 10, .inl (cI, 20, .inl (mp c))), (rm 11, .inl (cI, 20, .inl (mp c)))]) rfl rfl rfl (fun _ => rfl) (fun z31 hp31 => ?_)
      refine g_is (ws2 := [(mo, o6 rm (nI tl) pl (nI np) (nI nq) (nI nd) rt rp rq rd (nI cnt) (nI na) sd rw rx tm tf sm sf), (rm 1, .inl (cI, 5, .inl (fun k_ => nI (P 0 k_)))), (rm 2, .inl (cI, 5, .inl (fun k_ => nI (P 1 k_)))), (rm 3, .inl (cI, 5, .inl (fun k_ => nI (P 2 k_)))), (rm 4, .inl (cI, 5, .inl (fun k_ => nI (P 3 k_)))), (rm 5, .inl (cI, 5, .inl (fun k_ => nI (P 4 k_)))), (rm 6, .inl (cI, 5, .inl (fun k_ => nI (P 5 k_)))), (rm 10, .inl (cI, 20, .inl (mp c))), (rm 11, .inl (cI, 20, .inl (mp c)))]) (lv2 := [(0, .ref mo), (1, .int (nI k)), (2, .int (nI dn))]) (st2 := []) rfl rfl rfl ?_
      refine g_aload_n hC 0 dX6_due_34 rfl rfl ?_
      refine g_iload_n hC 2 dX6_due_35 rfl rfl ?_
      refine g_callVv (As := [.int (nI dn)]) (rest := []) hC (c_X6_goDays l D cI cZ mo rm tl pl np nq nd rt rp rq rd cnt na sd rw rx tm tf sm sf P c t dn (by first | assumption | omega) (by first | assumption | omega) (by first | assumption | omega) (by first | assumption | omega)) (cwV 1 hC.1.2.2.2.2 gX6_due_X6_goDays rfl rfl rfl dV_X6_goDays ⟨Nat.le_of_ble_eq_true rfl, Nat.le_of_ble_eq_true rfl⟩) rfl rfl rfl rfl (Nat.le_of_ble_eq_true rfl) dX6_due_36 ⟨Nat.le_of_ble_eq_true rfl, Nat.le_of_ble_eq_true rfl⟩ [0, 1, 3, 4, 5, 6, 8] [2, 7] [2, 3, 0, 4, 5, 6, 7, 1, 8] (fun (_ : Unit) => [(mo, o6 rm (nI tl) pl (nI np) (nI nq) (nI nd) rt rp rq rd (nI cnt) (nI na) sd rw rx tm tf sm sf), (rm 1, .inl (cI, 5, .inl (fun k_ => nI (P 0 k_)))), (rm 2, .inl (cI, 5, .inl (fun k_ => nI (P 1 k_)))), (rm 3, .inl (cI, 5, .inl (fun k_ => nI (P 2 k_)))), (rm 4, .inl (cI, 5, .inl (fun k_ => nI (P 3 k_)))), (rm 5, .inl (cI, 5, .inl (fun k_ => nI (P 4 k_)))), (rm 6, .inl (cI, 5, .inl (fun k_ => nI (P 5 k_)))), (rm 10, .inl (cI, 20, .inl (mp c))), (rm 11, .inl (cI, 20, .inl (mp (passN P nq nd c dn))))]) rfl rfl rfl (fun _ => rfl) (fun z36 hp36 => ?_)
      refine g_is (ws2 := [(mo, o6 rm (nI tl) pl (nI np) (nI nq) (nI nd) rt rp rq rd (nI cnt) (nI na) sd rw rx tm tf sm sf), (rm 1, .inl (cI, 5, .inl (fun k_ => nI (P 0 k_)))), (rm 2, .inl (cI, 5, .inl (fun k_ => nI (P 1 k_)))), (rm 3, .inl (cI, 5, .inl (fun k_ => nI (P 2 k_)))), (rm 4, .inl (cI, 5, .inl (fun k_ => nI (P 3 k_)))), (rm 5, .inl (cI, 5, .inl (fun k_ => nI (P 4 k_)))), (rm 6, .inl (cI, 5, .inl (fun k_ => nI (P 5 k_)))), (rm 10, .inl (cI, 20, .inl (mp c))), (rm 11, .inl (cI, 20, .inl (mp (passN P nq nd c dn))))]) (lv2 := [(0, .ref mo), (1, .int (nI k)), (2, .int (nI dn))]) (st2 := []) rfl rfl rfl ?_
      refine g_aload_n hC 0 dX6_due_39 rfl rfl ?_
      refine g_aload_n hC 0 dX6_due_40 rfl rfl ?_
      refine g_get (C := RX6) (T := TX6) (N := 38) (ci := 6) (v := .ref (rm 11)) hC hcw6 0 rfl rfl 21 (by decide) w3 (fun _ h => h) rfl dX6_due_41 ?_
      refine g_iload_n hC 1 dX6_due_44 rfl rfl ?_
      refine g_callVip (As := [.ref (rm 11), .int (nI k)]) (rest := []) hC (owed P (passN P nq nd c dn) k) (c_X6_dueOf l D cI cZ mo rm tl pl np nq nd rt rp rq rd cnt na sd rw rx tm tf sm sf P (rm 11) (passN P nq nd c dn) k (by omega)) (cwV 2 hC.1.2.2.2.2 gX6_due_X6_dueOf rfl rfl rfl dV_X6_dueOf ⟨Nat.le_of_ble_eq_true rfl, Nat.le_of_ble_eq_true rfl⟩) rfl rfl rfl rfl (Nat.le_of_ble_eq_true rfl) dX6_due_45 ⟨Nat.le_of_ble_eq_true rfl, Nat.le_of_ble_eq_true rfl⟩ [0, 2, 3, 8] rfl rfl ?_
      subst hQ
      refine g_iret (v := owed P (passN P nq nd c dn) k) hC (passN P nq nd c dn) hr ?_ rfl dX6_due_48
      rw [dueR, if_pos hin2, if_pos okb, hKk, hKb]
    refine g_bipush (v := (-2)) hC dX6_due_27 (by decide +kernel) ?_
    subst hQ
    refine g_iret (v := -2) hC (g) hr ?_ rfl dX6_due_29
    rw [dueR, if_pos hin2, if_neg h24f]
  refine g_iconst (v := (-1)) hC dX6_due_13 rfl ?_
  subst hQ
  refine g_iret (v := -1) hC (g) hr ?_ rfl dX6_due_14
  rw [dueR, if_neg h10f]

abbrev rm_X6_done : Room := { frames := 2, cells := 0, slots := 0, locals := 46 }
set_option maxRecDepth 100000 in
set_option maxHeartbeats 4000000 in
theorem c_X6_done (l : Launch) (D : va_G) (cI cZ : ClassId) (mo : Nat) (rm : Nat → Nat) (tl : Nat) (pl : Int32) (np : Nat) (nq : Nat) (nd : Nat) (rt : Int32) (rp : Int32) (rq : Int32) (rd : Int32) (cnt : Nat) (na : Nat) (sd : Int64) (rw : Int32) (rx : Int32) (tm : Int32) (tf : Int32) (sm : Int32) (sf : Int32) (P : Nat → Nat → Nat) (c : Nat → Int32) (g : Nat → Int32) (t : Nat) (b : Int32) (hW : WFP np nq nd P) (hFr : Fr P nd c t) (ht : t ≤ 200) : CtI l yX6_done wsX6_done rm_X6_done D cI cZ [.ref mo, .int b] [(mo, o6 rm (nI tl) pl (nI np) (nI nq) (nI nd) rt rp rq rd (nI cnt) (nI na) sd rw rx tm tf sm sf), (rm 1, .inl (cI, 5, .inl (fun k_ => nI (P 0 k_)))), (rm 2, .inl (cI, 5, .inl (fun k_ => nI (P 1 k_)))), (rm 3, .inl (cI, 5, .inl (fun k_ => nI (P 2 k_)))), (rm 4, .inl (cI, 5, .inl (fun k_ => nI (P 3 k_)))), (rm 5, .inl (cI, 5, .inl (fun k_ => nI (P 4 k_)))), (rm 6, .inl (cI, 5, .inl (fun k_ => nI (P 5 k_)))), (rm 10, .inl (cI, 20, .inl (mp c))), (rm 11, .inl (cI, 20, .inl (mp g)))] (fun (r : Int32) (g2 : (Nat → Int32)) => r = doneR nq nd P c b) (fun (g2 : (Nat → Int32)) => [(mo, o6 rm (nI tl) pl (nI np) (nI nq) (nI nd) rt rp rq rd (nI cnt) (nI na) sd rw rx tm tf sm sf), (rm 1, .inl (cI, 5, .inl (fun k_ => nI (P 0 k_)))), (rm 2, .inl (cI, 5, .inl (fun k_ => nI (P 1 k_)))), (rm 3, .inl (cI, 5, .inl (fun k_ => nI (P 2 k_)))), (rm 4, .inl (cI, 5, .inl (fun k_ => nI (P 3 k_)))), (rm 5, .inl (cI, 5, .inl (fun k_ => nI (P 4 k_)))), (rm 6, .inl (cI, 5, .inl (fun k_ => nI (P 5 k_)))), (rm 10, .inl (cI, 20, .inl (mp c))), (rm 11, .inl (cI, 20, .inl (mp g2)))]) 0 0 := by
  refine g_startI (ret := (some .int)) (own := RX6) (lv0 := [(0, .ref mo), (1, .int b)]) (by decide) rfl rfl (Nat.le_of_ble_eq_true rfl) rfl ?_
  intro p e s m args below meth cd A Q hin hr hQ hC
  have hcw6 : ∀ w ∈ wsX60, w ∈ wsX6_done := fun _ h => List.mem_cons_of_mem _ (List.mem_append_right _ h)
  have w1 := hC.1.2.2.2.2 (.fieldLink "PluckBrokerModel" 68 "PluckBrokerModel" "thrown" "I") (List.mem_of_getElem? (i := 1) rfl)
  have w2 := hC.1.2.2.2.2 (.constantLong "PluckBrokerModel" 186 20) (List.mem_of_getElem? (i := 2) rfl)
  have w3 := hC.1.2.2.2.2 (.fieldLink "PluckBrokerModel" 43 "PluckBrokerModel" "trial" "[I") (List.mem_of_getElem? (i := 3) rfl)
  obtain ⟨⟨hnp, hnq, hnd⟩, hq4, hd5⟩ := id hW
  refine g_aload_n hC 0 dX6_done_0 rfl rfl ?_
  refine g_iconst (v := nI 0) hC dX6_done_1 rfl ?_
  refine g_put (C := RX6) (T := TX6) (N := 38) (ci := 6) (v := .int (nI 0)) hC hcw6 tyX6 tyX6_ok nmX6 0 rfl rfl 0 (by decide) w1 (fun _ h => h) rfl (tyX6_ok 0 (by decide)) rfl rfl (Nat.le_of_ble_eq_true rfl) [(mo, o6 rm (nI tl) pl (nI np) (nI nq) (nI nd) rt rp rq rd (nI cnt) (nI na) sd rw rx tm tf sm sf), (rm 1, .inl (cI, 5, .inl (fun k_ => nI (P 0 k_)))), (rm 2, .inl (cI, 5, .inl (fun k_ => nI (P 1 k_)))), (rm 3, .inl (cI, 5, .inl (fun k_ => nI (P 2 k_)))), (rm 4, .inl (cI, 5, .inl (fun k_ => nI (P 3 k_)))), (rm 5, .inl (cI, 5, .inl (fun k_ => nI (P 4 k_)))), (rm 6, .inl (cI, 5, .inl (fun k_ => nI (P 5 k_)))), (rm 10, .inl (cI, 20, .inl (mp c))), (rm 11, .inl (cI, 20, .inl (mp g)))] rfl dX6_done_2 ?_
  refine g_iload_n hC 1 dX6_done_5 rfl rfl ?_
  refine g_i2l hC dX6_done_6 rfl ?_
  refine g_lconst (v := (nI 0).toInt64) hC dX6_done_7 (by decide +kernel) ?_
  refine g_ldc2 (v := 20) hC w2 dX6_done_8 ?_
  refine g_topl (y := (nI 20).toInt64) (by decide +kernel) ?_
  refine g_callSip (As := [.long b.toInt64, .long ((nI 0).toInt64), .long ((nI 20).toInt64)]) (rest := []) hC (bI ((nI 0) ≤ b ∧ b ≤ (nI 20))) (c_X6_in l D cI cZ b (nI 0) (nI 20)) (va_cwS 3 hC.1.2.2.2.2 gX6_done_X6_in rfl rfl rfl dS_X6_in ⟨Nat.le_of_ble_eq_true rfl, Nat.le_of_ble_eq_true rfl⟩) rfl rfl (Nat.le_of_ble_eq_true rfl) dX6_done_11 ⟨Nat.le_of_ble_eq_true rfl, Nat.le_of_ble_eq_true rfl⟩ [] rfl rfl ?_
  refine g_if_ne_b hC 20 dX6_done_14 (by decide) (fun h14t => ?_) (fun h14f => ?_)
  · obtain ⟨dn, hdn, rfl⟩ := ok_n (M := 20) (by decide) h14t
    have okb : okN (nI dn) := ok_k (M := 20) (by decide) hdn
    have hKb : K (nI dn) = dn := K_n (by omega)
    refine g_aload_n hC 0 dX6_done_20 rfl rfl ?_
    refine g_callVv (As := []) (rest := []) hC (c_X6_begin l D cI cZ mo rm tl pl np nq nd rt rp rq rd cnt na sd rw rx tm tf sm sf c g) (cwV 0 hC.1.2.2.2.2 gX6_done_X6_begin rfl rfl rfl dV_X6_begin ⟨Nat.le_of_ble_eq_true rfl, Nat.le_of_ble_eq_true rfl⟩) rfl rfl rfl rfl (Nat.le_of_ble_eq_true rfl) dX6_done_21 ⟨Nat.le_of_ble_eq_true rfl, Nat.le_of_ble_eq_true rfl⟩ [0, 7, 8] [1, 2, 3, 4, 5, 6] [6, 0, 1, 2, 3, 4, 5, 7, 8] (fun (_ : Unit) => [(mo, o6 rm (nI tl) pl (nI np) (nI nq) (nI nd) rt rp rq rd (nI cnt) (nI na) sd rw rx tm tf sm sf), (rm 1, .inl (cI, 5, .inl (fun k_ => nI (P 0 k_)))), (rm 2, .inl (cI, 5, .inl (fun k_ => nI (P 1 k_)))), (rm 3, .inl (cI, 5, .inl (fun k_ => nI (P 2 k_)))), (rm 4, .inl (cI, 5, .inl (fun k_ => nI (P 3 k_)))), (rm 5, .inl (cI, 5, .inl (fun k_ => nI (P 4 k_)))), (rm 6, .inl (cI, 5, .inl (fun k_ => nI (P 5 k_)))), (rm 10, .inl (cI, 20, .inl (mp c))), (rm 11, .inl (cI, 20, .inl (mp c)))]) rfl rfl rfl (fun _ => rfl) (fun z21 hp21 => ?_)
    refine g_is (ws2 := [(mo, o6 rm (nI tl) pl (nI np) (nI nq) (nI nd) rt rp rq rd (nI cnt) (nI na) sd rw rx tm tf sm sf), (rm 1, .inl (cI, 5, .inl (fun k_ => nI (P 0 k_)))), (rm 2, .inl (cI, 5, .inl (fun k_ => nI (P 1 k_)))), (rm 3, .inl (cI, 5, .inl (fun k_ => nI (P 2 k_)))), (rm 4, .inl (cI, 5, .inl (fun k_ => nI (P 3 k_)))), (rm 5, .inl (cI, 5, .inl (fun k_ => nI (P 4 k_)))), (rm 6, .inl (cI, 5, .inl (fun k_ => nI (P 5 k_)))), (rm 10, .inl (cI, 20, .inl (mp c))), (rm 11, .inl (cI, 20, .inl (mp c)))]) (lv2 := [(0, .ref mo), (1, .int (nI dn))]) (st2 := []) rfl rfl rfl ?_
    refine g_aload_n hC 0 dX6_done_24 rfl rfl ?_
    refine g_iload_n hC 1 dX6_done_25 rfl rfl ?_
    refine g_callVv (As := [.int (nI dn)]) (rest := []) hC (c_X6_goDays l D cI cZ mo rm tl pl np nq nd rt rp rq rd cnt na sd rw rx tm tf sm sf P c t dn (by first | assumption | omega) (by first | assumption | omega) (by first | assumption | omega) (by first | assumption | omega)) (cwV 1 hC.1.2.2.2.2 gX6_done_X6_goDays rfl rfl rfl dV_X6_goDays ⟨Nat.le_of_ble_eq_true rfl, Nat.le_of_ble_eq_true rfl⟩) rfl rfl rfl rfl (Nat.le_of_ble_eq_true rfl) dX6_done_26 ⟨Nat.le_of_ble_eq_true rfl, Nat.le_of_ble_eq_true rfl⟩ [0, 1, 3, 4, 5, 6, 8] [2, 7] [2, 3, 0, 4, 5, 6, 7, 1, 8] (fun (_ : Unit) => [(mo, o6 rm (nI tl) pl (nI np) (nI nq) (nI nd) rt rp rq rd (nI cnt) (nI na) sd rw rx tm tf sm sf), (rm 1, .inl (cI, 5, .inl (fun k_ => nI (P 0 k_)))), (rm 2, .inl (cI, 5, .inl (fun k_ => nI (P 1 k_)))), (rm 3, .inl (cI, 5, .inl (fun k_ => nI (P 2 k_)))), (rm 4, .inl (cI, 5, .inl (fun k_ => nI (P 3 k_)))), (rm 5, .inl (cI, 5, .inl (fun k_ => nI (P 4 k_)))), (rm 6, .inl (cI, 5, .inl (fun k_ => nI (P 5 k_)))), (rm 10, .inl (cI, 20, .inl (mp c))), (rm 11, .inl (cI, 20, .inl (mp (passN P nq nd c dn))))]) rfl rfl rfl (fun _ => rfl) (fun z26 hp26 => ?_)
    refine g_is (ws2 := [(mo, o6 rm (nI tl) pl (nI np) (nI nq) (nI nd) rt rp rq rd (nI cnt) (nI na) sd rw rx tm tf sm sf), (rm 1, .inl (cI, 5, .inl (fun k_ => nI (P 0 k_)))), (rm 2, .inl (cI, 5, .inl (fun k_ => nI (P 1 k_)))), (rm 3, .inl (cI, 5, .inl (fun k_ => nI (P 2 k_)))), (rm 4, .inl (cI, 5, .inl (fun k_ => nI (P 3 k_)))), (rm 5, .inl (cI, 5, .inl (fun k_ => nI (P 4 k_)))), (rm 6, .inl (cI, 5, .inl (fun k_ => nI (P 5 k_)))), (rm 10, .inl (cI, 20, .inl (mp c))), (rm 11, .inl (cI, 20, .inl (mp (passN P nq nd c dn))))]) (lv2 := [(0, .ref mo), (1, .int (nI dn))]) (st2 := []) rfl rfl rfl ?_
    refine g_aload_n hC 0 dX6_done_29 rfl rfl ?_
    refine g_aload_n hC 0 dX6_done_30 rfl rfl ?_
    refine g_get (C := RX6) (T := TX6) (N := 38) (ci := 6) (v := .ref (rm 11)) hC hcw6 0 rfl rfl 21 (by decide) w3 (fun _ h => h) rfl dX6_done_31 ?_
    refine g_iconst (v := nI 1) hC dX6_done_34 rfl ?_
    refine g_callVip (As := [.ref (rm 11), .int (nI 1)]) (rest := []) hC (nI (deedsThat nd (passN P nq nd c dn) (nI 1))) (c_X6_deedsThat l D cI cZ mo rm tl pl np nq nd rt rp rq rd cnt na sd rw rx tm tf sm sf (rm 11) (passN P nq nd c dn) (nI 1) (by omega)) (cwV 2 hC.1.2.2.2.2 gX6_done_X6_deedsThat rfl rfl rfl dV_X6_deedsThat ⟨Nat.le_of_ble_eq_true rfl, Nat.le_of_ble_eq_true rfl⟩) rfl rfl rfl rfl (Nat.le_of_ble_eq_true rfl) dX6_done_35 ⟨Nat.le_of_ble_eq_true rfl, Nat.le_of_ble_eq_true rfl⟩ [0, 8] rfl rfl ?_
    subst hQ
    refine g_iret (v := nI (deedsThat nd (passN P nq nd c dn) (nI 1))) hC (passN P nq nd c dn) hr ?_ rfl dX6_done_38
    rw [doneR, if_pos okb, hKb]
  refine g_bipush (v := (-2)) hC dX6_done_17 (by decide +kernel) ?_
  subst hQ
  refine g_iret (v := -2) hC (g) hr ?_ rfl dX6_done_19
  rw [doneR, if_neg h14f]

abbrev rm_X6_coins : Room := { frames := 2, cells := 0, slots := 0, locals := 46 }
set_option maxRecDepth 100000 in
set_option maxHeartbeats 4000000 in
theorem c_X6_coins (l : Launch) (D : va_G) (cI cZ : ClassId) (mo : Nat) (rm : Nat → Nat) (tl : Nat) (pl : Int32) (np : Nat) (nq : Nat) (nd : Nat) (rt : Int32) (rp : Int32) (rq : Int32) (rd : Int32) (cnt : Nat) (na : Nat) (sd : Int64) (rw : Int32) (rx : Int32) (tm : Int32) (tf : Int32) (sm : Int32) (sf : Int32) (P : Nat → Nat → Nat) (c : Nat → Int32) (g : Nat → Int32) (t : Nat) (a : Int32) (b : Int32) (hW : WFP np nq nd P) (hFr : Fr P nd c t) (ht : t ≤ 200) : CtI l yX6_coins wsX6_coins rm_X6_coins D cI cZ [.ref mo, .int a, .int b] [(mo, o6 rm (nI tl) pl (nI np) (nI nq) (nI nd) rt rp rq rd (nI cnt) (nI na) sd rw rx tm tf sm sf), (rm 1, .inl (cI, 5, .inl (fun k_ => nI (P 0 k_)))), (rm 2, .inl (cI, 5, .inl (fun k_ => nI (P 1 k_)))), (rm 3, .inl (cI, 5, .inl (fun k_ => nI (P 2 k_)))), (rm 4, .inl (cI, 5, .inl (fun k_ => nI (P 3 k_)))), (rm 5, .inl (cI, 5, .inl (fun k_ => nI (P 4 k_)))), (rm 6, .inl (cI, 5, .inl (fun k_ => nI (P 5 k_)))), (rm 10, .inl (cI, 20, .inl (mp c))), (rm 11, .inl (cI, 20, .inl (mp g)))] (fun (r : Int32) (g2 : (Nat → Int32)) => r = coinsR np nq nd P c a b) (fun (g2 : (Nat → Int32)) => [(mo, o6 rm (nI tl) pl (nI np) (nI nq) (nI nd) rt rp rq rd (nI cnt) (nI na) sd rw rx tm tf sm sf), (rm 1, .inl (cI, 5, .inl (fun k_ => nI (P 0 k_)))), (rm 2, .inl (cI, 5, .inl (fun k_ => nI (P 1 k_)))), (rm 3, .inl (cI, 5, .inl (fun k_ => nI (P 2 k_)))), (rm 4, .inl (cI, 5, .inl (fun k_ => nI (P 3 k_)))), (rm 5, .inl (cI, 5, .inl (fun k_ => nI (P 4 k_)))), (rm 6, .inl (cI, 5, .inl (fun k_ => nI (P 5 k_)))), (rm 10, .inl (cI, 20, .inl (mp c))), (rm 11, .inl (cI, 20, .inl (mp g2)))]) 0 0 := by
  refine g_startI (ret := (some .int)) (own := RX6) (lv0 := [(0, .ref mo), (1, .int a), (2, .int b)]) (by decide) rfl rfl (Nat.le_of_ble_eq_true rfl) rfl ?_
  intro p e s m args below meth cd A Q hin hr hQ hC
  have hcw6 : ∀ w ∈ wsX60, w ∈ wsX6_coins := fun _ h => List.mem_cons_of_mem _ (List.mem_append_right _ h)
  have w1 := hC.1.2.2.2.2 (.fieldLink "PluckBrokerModel" 68 "PluckBrokerModel" "thrown" "I") (List.mem_of_getElem? (i := 1) rfl)
  have w2 := hC.1.2.2.2.2 (.constantLong "PluckBrokerModel" 186 20) (List.mem_of_getElem? (i := 2) rfl)
  have w3 := hC.1.2.2.2.2 (.fieldLink "PluckBrokerModel" 43 "PluckBrokerModel" "trial" "[I") (List.mem_of_getElem? (i := 3) rfl)
  obtain ⟨⟨hnp, hnq, hnd⟩, hq4, hd5⟩ := id hW
  refine g_aload_n hC 0 dX6_coins_0 rfl rfl ?_
  refine g_iconst (v := nI 0) hC dX6_coins_1 rfl ?_
  refine g_put (C := RX6) (T := TX6) (N := 38) (ci := 6) (v := .int (nI 0)) hC hcw6 tyX6 tyX6_ok nmX6 0 rfl rfl 0 (by decide) w1 (fun _ h => h) rfl (tyX6_ok 0 (by decide)) rfl rfl (Nat.le_of_ble_eq_true rfl) [(mo, o6 rm (nI tl) pl (nI np) (nI nq) (nI nd) rt rp rq rd (nI cnt) (nI na) sd rw rx tm tf sm sf), (rm 1, .inl (cI, 5, .inl (fun k_ => nI (P 0 k_)))), (rm 2, .inl (cI, 5, .inl (fun k_ => nI (P 1 k_)))), (rm 3, .inl (cI, 5, .inl (fun k_ => nI (P 2 k_)))), (rm 4, .inl (cI, 5, .inl (fun k_ => nI (P 3 k_)))), (rm 5, .inl (cI, 5, .inl (fun k_ => nI (P 4 k_)))), (rm 6, .inl (cI, 5, .inl (fun k_ => nI (P 5 k_)))), (rm 10, .inl (cI, 20, .inl (mp c))), (rm 11, .inl (cI, 20, .inl (mp g)))] rfl dX6_coins_2 ?_
  refine g_aload_n hC 0 dX6_coins_5 rfl rfl ?_
  refine g_iload_n hC 1 dX6_coins_6 rfl rfl ?_
  refine g_callVip (As := [.int a]) (rest := []) hC (bI (¬ inR a np)) (c_X6_noPerson l D cI cZ mo rm tl pl np nq nd rt rp rq rd cnt na sd rw rx tm tf sm sf a (by omega)) (cwV 1 hC.1.2.2.2.2 gX6_coins_X6_noPerson rfl rfl rfl dV_X6_noPerson ⟨Nat.le_of_ble_eq_true rfl, Nat.le_of_ble_eq_true rfl⟩) rfl rfl rfl rfl (Nat.le_of_ble_eq_true rfl) dX6_coins_7 ⟨Nat.le_of_ble_eq_true rfl, Nat.le_of_ble_eq_true rfl⟩ [0] rfl rfl ?_
  refine g_if_eq_b hC 15 dX6_coins_10 (by decide) (fun h10t => ?_) (fun h10f => ?_)
  · obtain ⟨k, hk, rfl⟩ := inR_n (by omega) (Decidable.not_not.mp h10t)
    have hin2 := inR_k (n := np) (by omega) hk
    have hKk : K (nI k) = k := K_n (by omega)
    refine g_iload_n hC 2 dX6_coins_15 rfl rfl ?_
    refine g_i2l hC dX6_coins_16 rfl ?_
    refine g_lconst (v := (nI 0).toInt64) hC dX6_coins_17 (by decide +kernel) ?_
    refine g_ldc2 (v := 20) hC w2 dX6_coins_18 ?_
    refine g_topl (y := (nI 20).toInt64) (by decide +kernel) ?_
    refine g_callSip (As := [.long b.toInt64, .long ((nI 0).toInt64), .long ((nI 20).toInt64)]) (rest := []) hC (bI ((nI 0) ≤ b ∧ b ≤ (nI 20))) (c_X6_in l D cI cZ b (nI 0) (nI 20)) (va_cwS 3 hC.1.2.2.2.2 gX6_coins_X6_in rfl rfl rfl dS_X6_in ⟨Nat.le_of_ble_eq_true rfl, Nat.le_of_ble_eq_true rfl⟩) rfl rfl (Nat.le_of_ble_eq_true rfl) dX6_coins_21 ⟨Nat.le_of_ble_eq_true rfl, Nat.le_of_ble_eq_true rfl⟩ [] rfl rfl ?_
    refine g_if_ne_b hC 30 dX6_coins_24 (by decide) (fun h24t => ?_) (fun h24f => ?_)
    · obtain ⟨dn, hdn, rfl⟩ := ok_n (M := 20) (by decide) h24t
      have okb : okN (nI dn) := ok_k (M := 20) (by decide) hdn
      have hKb : K (nI dn) = dn := K_n (by omega)
      refine g_aload_n hC 0 dX6_coins_30 rfl rfl ?_
      refine g_callVv (As := []) (rest := []) hC (c_X6_begin l D cI cZ mo rm tl pl np nq nd rt rp rq rd cnt na sd rw rx tm tf sm sf c g) (cwV 0 hC.1.2.2.2.2 gX6_coins_X6_begin rfl rfl rfl dV_X6_begin ⟨Nat.le_of_ble_eq_true rfl, Nat.le_of_ble_eq_true rfl⟩) rfl rfl rfl rfl (Nat.le_of_ble_eq_true rfl) dX6_coins_31 ⟨Nat.le_of_ble_eq_true rfl, Nat.le_of_ble_eq_true rfl⟩ [0, 7, 8] [1, 2, 3, 4, 5, 6] [6, 0, 1, 2, 3, 4, 5, 7, 8] (fun (_ : Unit) => [(mo, o6 rm (nI tl) pl (nI np) (nI nq) (nI nd) rt rp rq rd (nI cnt) (nI na) sd rw rx tm tf sm sf), (rm 1, .inl (cI, 5, .inl (fun k_ => nI (P 0 k_)))), (rm 2, .inl (cI, 5, .inl (fun k_ => nI (P 1 k_)))), (rm 3, .inl (cI, 5, .inl (fun k_ => nI (P 2 k_)))), (rm 4, .inl (cI, 5, .inl (fun k_ => nI (P 3 k_)))), (rm 5, .inl (cI, 5, .inl (fun k_ => nI (P 4 k_)))), (rm 6, .inl (cI, 5, .inl (fun k_ => nI (P 5 k_)))), (rm 10, .inl (cI, 20, .inl (mp c))), (rm 11, .inl (cI, 20, .inl (mp c)))]) rfl rfl rfl (fun _ => rfl) (fun z31 hp31 => ?_)
      refine g_is (ws2 := [(mo, o6 rm (nI tl) pl (nI np) (nI nq) (nI nd) rt rp rq rd (nI cnt) (nI na) sd rw rx tm tf sm sf), (rm 1, .inl (cI, 5, .inl (fun k_ => nI (P 0 k_)))), (rm 2, .inl (cI, 5, .inl (fun k_ => nI (P 1 k_)))), (rm 3, .inl (cI, 5, .inl (fun k_ => nI (P 2 k_)))), (rm 4, .inl (cI, 5, .inl (fun k_ => nI (P 3 k_)))), (rm 5, .inl (cI, 5, .inl (fun k_ => nI (P 4 k_)))), (rm 6, .inl (cI, 5, .inl (fun k_ => nI (P 5 k_)))), (rm 10, .inl (cI, 20, .inl (mp c))), (rm 11, .inl (cI, 20, .inl (mp c)))]) (lv2 := [(0, .ref mo), (1, .int (nI k)), (2, .int (nI dn))]) (st2 := []) rfl rfl rfl ?_
      refine g_aload_n hC 0 dX6_coins_34 rfl rfl ?_
      refine g_iload_n hC 2 dX6_coins_35 rfl rfl ?_
      refine g_callVv (As := [.int (nI dn)]) (rest := []) hC (c_X6_goDays l D cI cZ mo rm tl pl np nq nd rt rp rq rd cnt na sd rw rx tm tf sm sf P c t dn (by first | assumption | omega) (by first | assumption | omega) (by first | assumption | omega) (by first | assumption | omega)) (cwV 1 hC.1.2.2.2.2 gX6_coins_X6_goDays rfl rfl rfl dV_X6_goDays ⟨Nat.le_of_ble_eq_true rfl, Nat.le_of_ble_eq_true rfl⟩) rfl rfl rfl rfl (Nat.le_of_ble_eq_true rfl) dX6_coins_36 ⟨Nat.le_of_ble_eq_true rfl, Nat.le_of_ble_eq_true rfl⟩ [0, 1, 3, 4, 5, 6, 8] [2, 7] [2, 3, 0, 4, 5, 6, 7, 1, 8] (fun (_ : Unit) => [(mo, o6 rm (nI tl) pl (nI np) (nI nq) (nI nd) rt rp rq rd (nI cnt) (nI na) sd rw rx tm tf sm sf), (rm 1, .inl (cI, 5, .inl (fun k_ => nI (P 0 k_)))), (rm 2, .inl (cI, 5, .inl (fun k_ => nI (P 1 k_)))), (rm 3, .inl (cI, 5, .inl (fun k_ => nI (P 2 k_)))), (rm 4, .inl (cI, 5, .inl (fun k_ => nI (P 3 k_)))), (rm 5, .inl (cI, 5, .inl (fun k_ => nI (P 4 k_)))), (rm 6, .inl (cI, 5, .inl (fun k_ => nI (P 5 k_)))), (rm 10, .inl (cI, 20, .inl (mp c))), (rm 11, .inl (cI, 20, .inl (mp (passN P nq nd c dn))))]) rfl rfl rfl (fun _ => rfl) (fun z36 hp36 => ?_)
      refine g_is (ws2 := [(mo, o6 rm (nI tl) pl (nI np) (nI nq) (nI nd) rt rp rq rd (nI cnt) (nI na) sd rw rx tm tf sm sf), (rm 1, .inl (cI, 5, .inl (fun k_ => nI (P 0 k_)))), (rm 2, .inl (cI, 5, .inl (fun k_ => nI (P 1 k_)))), (rm 3, .inl (cI, 5, .inl (fun k_ => nI (P 2 k_)))), (rm 4, .inl (cI, 5, .inl (fun k_ => nI (P 3 k_)))), (rm 5, .inl (cI, 5, .inl (fun k_ => nI (P 4 k_)))), (rm 6, .inl (cI, 5, .inl (fun k_ => nI (P 5 k_)))), (rm 10, .inl (cI, 20, .inl (mp c))), (rm 11, .inl (cI, 20, .inl (mp (passN P nq nd c dn))))]) (lv2 := [(0, .ref mo), (1, .int (nI k)), (2, .int (nI dn))]) (st2 := []) rfl rfl rfl ?_
      refine g_aload_n hC 0 dX6_coins_39 rfl rfl ?_
      refine g_get (C := RX6) (T := TX6) (N := 38) (ci := 6) (v := .ref (rm 11)) hC hcw6 0 rfl rfl 21 (by decide) w3 (fun _ h => h) rfl dX6_coins_40 ?_
      refine g_iconst (v := nI 1) hC dX6_coins_43 rfl ?_
      refine g_iload_n hC 1 dX6_coins_44 rfl rfl ?_
      refine g_iadd_n (a := 1) (b := k) hC dX6_coins_45 ?_
      refine g_iald hC 8 rfl (1 + k) rfl (by omega) (by decide) dX6_coins_46 ?_
      refine g_top (y := (passN P nq nd c dn) (2 + k)) (mp_1 _ (by omega)) ?_
      subst hQ
      refine g_iret (v := (passN P nq nd c dn) (2 + k)) hC (passN P nq nd c dn) hr ?_ rfl dX6_coins_47
      rw [coinsR, if_pos hin2, if_pos okb, hKk, hKb]
    refine g_bipush (v := (-2)) hC dX6_coins_27 (by decide +kernel) ?_
    subst hQ
    refine g_iret (v := -2) hC (g) hr ?_ rfl dX6_coins_29
    rw [coinsR, if_pos hin2, if_neg h24f]
  refine g_iconst (v := (-1)) hC dX6_coins_13 rfl ?_
  subst hQ
  refine g_iret (v := -1) hC (g) hr ?_ rfl dX6_coins_14
  rw [coinsR, if_neg h10f]

abbrev rm_X6_back : Room := { frames := 3, cells := 0, slots := 0, locals := 67 }
set_option maxRecDepth 100000 in
set_option maxHeartbeats 4000000 in
theorem c_X6_back (l : Launch) (D : va_G) (cI cZ : ClassId) (mo : Nat) (rm : Nat → Nat) (tl : Nat) (pl : Int32) (np : Nat) (nq : Nat) (nd : Nat) (rt : Int32) (rp : Int32) (rq : Int32) (rd : Int32) (cnt : Nat) (na : Nat) (sd : Int64) (rw : Int32) (rx : Int32) (tm : Int32) (tf : Int32) (sm : Int32) (sf : Int32) (P : Nat → Nat → Nat) (c : Nat → Int32) (g : Nat → Int32) (t : Nat) (a : Int32) (hW : WFP np nq nd P) (hFr : Fr P nd c t) (ht : t ≤ 200) : CtI l yX6_back wsX6_back rm_X6_back D cI cZ [.ref mo, .int a] [(mo, o6 rm (nI tl) pl (nI np) (nI nq) (nI nd) rt rp rq rd (nI cnt) (nI na) sd rw rx tm tf sm sf), (rm 1, .inl (cI, 5, .inl (fun k_ => nI (P 0 k_)))), (rm 2, .inl (cI, 5, .inl (fun k_ => nI (P 1 k_)))), (rm 3, .inl (cI, 5, .inl (fun k_ => nI (P 2 k_)))), (rm 4, .inl (cI, 5, .inl (fun k_ => nI (P 3 k_)))), (rm 5, .inl (cI, 5, .inl (fun k_ => nI (P 4 k_)))), (rm 6, .inl (cI, 5, .inl (fun k_ => nI (P 5 k_)))), (rm 10, .inl (cI, 20, .inl (mp c))), (rm 11, .inl (cI, 20, .inl (mp g)))] (fun (r : Int32) (g2 : (Nat → Int32)) => r = backR nq nd P c a) (fun (g2 : (Nat → Int32)) => [(mo, o6 rm (nI tl) pl (nI np) (nI nq) (nI nd) rt rp rq rd (nI cnt) (nI na) sd rw rx tm tf sm sf), (rm 1, .inl (cI, 5, .inl (fun k_ => nI (P 0 k_)))), (rm 2, .inl (cI, 5, .inl (fun k_ => nI (P 1 k_)))), (rm 3, .inl (cI, 5, .inl (fun k_ => nI (P 2 k_)))), (rm 4, .inl (cI, 5, .inl (fun k_ => nI (P 3 k_)))), (rm 5, .inl (cI, 5, .inl (fun k_ => nI (P 4 k_)))), (rm 6, .inl (cI, 5, .inl (fun k_ => nI (P 5 k_)))), (rm 10, .inl (cI, 20, .inl (mp c))), (rm 11, .inl (cI, 20, .inl (mp g2)))]) 0 0 := by
  refine g_startI (ret := (some .int)) (own := RX6) (lv0 := [(0, .ref mo), (1, .int a)]) (by decide) rfl rfl (Nat.le_of_ble_eq_true rfl) rfl ?_
  intro p e s m args below meth cd A Q hin hr hQ hC
  have hcw6 : ∀ w ∈ wsX60, w ∈ wsX6_back := fun _ h => List.mem_cons_of_mem _ (List.mem_append_right _ h)
  have w1 := hC.1.2.2.2.2 (.fieldLink "PluckBrokerModel" 68 "PluckBrokerModel" "thrown" "I") (List.mem_of_getElem? (i := 1) rfl)
  have w2 := hC.1.2.2.2.2 (.fieldLink "PluckBrokerModel" 40 "PluckBrokerModel" "page" "[I") (List.mem_of_getElem? (i := 2) rfl)
  have w3 := hC.1.2.2.2.2 (.fieldLink "PluckBrokerModel" 43 "PluckBrokerModel" "trial" "[I") (List.mem_of_getElem? (i := 3) rfl)
  obtain ⟨⟨hnp, hnq, hnd⟩, hq4, hd5⟩ := id hW
  refine g_aload_n hC 0 dX6_back_0 rfl rfl ?_
  refine g_iconst (v := nI 0) hC dX6_back_1 rfl ?_
  refine g_put (C := RX6) (T := TX6) (N := 38) (ci := 6) (v := .int (nI 0)) hC hcw6 tyX6 tyX6_ok nmX6 0 rfl rfl 0 (by decide) w1 (fun _ h => h) rfl (tyX6_ok 0 (by decide)) rfl rfl (Nat.le_of_ble_eq_true rfl) [(mo, o6 rm (nI tl) pl (nI np) (nI nq) (nI nd) rt rp rq rd (nI cnt) (nI na) sd rw rx tm tf sm sf), (rm 1, .inl (cI, 5, .inl (fun k_ => nI (P 0 k_)))), (rm 2, .inl (cI, 5, .inl (fun k_ => nI (P 1 k_)))), (rm 3, .inl (cI, 5, .inl (fun k_ => nI (P 2 k_)))), (rm 4, .inl (cI, 5, .inl (fun k_ => nI (P 3 k_)))), (rm 5, .inl (cI, 5, .inl (fun k_ => nI (P 4 k_)))), (rm 6, .inl (cI, 5, .inl (fun k_ => nI (P 5 k_)))), (rm 10, .inl (cI, 20, .inl (mp c))), (rm 11, .inl (cI, 20, .inl (mp g)))] rfl dX6_back_2 ?_
  refine g_aload_n hC 0 dX6_back_5 rfl rfl ?_
  refine g_iload_n hC 1 dX6_back_6 rfl rfl ?_
  refine g_callVip (As := [.int a]) (rest := []) hC (bI (¬ inR a nq)) (c_X6_noQuality l D cI cZ mo rm tl pl np nq nd rt rp rq rd cnt na sd rw rx tm tf sm sf a (by omega)) (cwV 1 hC.1.2.2.2.2 gX6_back_X6_noQuality rfl rfl rfl dV_X6_noQuality ⟨Nat.le_of_ble_eq_true rfl, Nat.le_of_ble_eq_true rfl⟩) rfl rfl rfl rfl (Nat.le_of_ble_eq_true rfl) dX6_back_7 ⟨Nat.le_of_ble_eq_true rfl, Nat.le_of_ble_eq_true rfl⟩ [0] rfl rfl ?_
  refine g_if_eq_b hC 15 dX6_back_10 (by decide) (fun h10t => ?_) (fun h10f => ?_)
  · obtain ⟨k, hk, rfl⟩ := inR_n (by omega) (Decidable.not_not.mp h10t)
    have hin2 := inR_k (n := nq) (by omega) hk
    have hKk : K (nI k) = k := K_n (by omega)
    refine g_aload_n hC 0 dX6_back_15 rfl rfl ?_
    refine g_get (C := RX6) (T := TX6) (N := 38) (ci := 6) (v := .ref (rm 10)) hC hcw6 0 rfl rfl 20 (by decide) w2 (fun _ h => h) rfl dX6_back_16 ?_
    refine g_iconst (v := nI 4) hC dX6_back_19 rfl ?_
    refine g_iload_n hC 1 dX6_back_20 rfl rfl ?_
    refine g_iadd_n (a := 4) (b := k) hC dX6_back_21 ?_
    refine g_iald hC 7 rfl (4 + k) rfl (by omega) (by decide) dX6_back_22 ?_
    refine g_top (y := c (5 + k)) (mp_4 _ (by omega)) ?_
    refine g_iconst (v := nI 1) hC dX6_back_23 rfl ?_
    refine g_icmp_eq hC 30 dX6_back_24 (by decide) (fun h24t => ?_) (fun h24f => ?_)
    · refine g_aload_n hC 0 dX6_back_30 rfl rfl ?_
      refine g_callVv (As := []) (rest := []) hC (c_X6_begin l D cI cZ mo rm tl pl np nq nd rt rp rq rd cnt na sd rw rx tm tf sm sf c g) (cwV 0 hC.1.2.2.2.2 gX6_back_X6_begin rfl rfl rfl dV_X6_begin ⟨Nat.le_of_ble_eq_true rfl, Nat.le_of_ble_eq_true rfl⟩) rfl rfl rfl rfl (Nat.le_of_ble_eq_true rfl) dX6_back_31 ⟨Nat.le_of_ble_eq_true rfl, Nat.le_of_ble_eq_true rfl⟩ [0, 7, 8] [1, 2, 3, 4, 5, 6] [6, 0, 1, 2, 3, 4, 5, 7, 8] (fun (_ : Unit) => [(mo, o6 rm (nI tl) pl (nI np) (nI nq) (nI nd) rt rp rq rd (nI cnt) (nI na) sd rw rx tm tf sm sf), (rm 1, .inl (cI, 5, .inl (fun k_ => nI (P 0 k_)))), (rm 2, .inl (cI, 5, .inl (fun k_ => nI (P 1 k_)))), (rm 3, .inl (cI, 5, .inl (fun k_ => nI (P 2 k_)))), (rm 4, .inl (cI, 5, .inl (fun k_ => nI (P 3 k_)))), (rm 5, .inl (cI, 5, .inl (fun k_ => nI (P 4 k_)))), (rm 6, .inl (cI, 5, .inl (fun k_ => nI (P 5 k_)))), (rm 10, .inl (cI, 20, .inl (mp c))), (rm 11, .inl (cI, 20, .inl (mp c)))]) rfl rfl rfl (fun _ => rfl) (fun z31 hp31 => ?_)
      refine g_is (ws2 := [(mo, o6 rm (nI tl) pl (nI np) (nI nq) (nI nd) rt rp rq rd (nI cnt) (nI na) sd rw rx tm tf sm sf), (rm 1, .inl (cI, 5, .inl (fun k_ => nI (P 0 k_)))), (rm 2, .inl (cI, 5, .inl (fun k_ => nI (P 1 k_)))), (rm 3, .inl (cI, 5, .inl (fun k_ => nI (P 2 k_)))), (rm 4, .inl (cI, 5, .inl (fun k_ => nI (P 3 k_)))), (rm 5, .inl (cI, 5, .inl (fun k_ => nI (P 4 k_)))), (rm 6, .inl (cI, 5, .inl (fun k_ => nI (P 5 k_)))), (rm 10, .inl (cI, 20, .inl (mp c))), (rm 11, .inl (cI, 20, .inl (mp c)))]) (lv2 := [(0, .ref mo), (1, .int (nI k))]) (st2 := []) rfl rfl rfl ?_
      refine g_iconst (v := nI 0) hC dX6_back_34 rfl ?_
      refine g_istore_n (lv' := [(0, .ref mo), (1, .int (nI k)), (2, .int (nI 0))]) hC [1, 2, 0] dX6_back_35 rfl (by decide) rfl ?_
      have L36 : ∀ (n : Nat) (i : Nat) (gg : Nat → Int32), (i ≤ 21) → (gg = passN P nq nd c i) → (backF P nq nd c k 21 0 = backF P nq nd c k (21 - i) i) → 21 - i < n → G p l e rm_X6_back s m args below meth cd D A 0 0 Q 3 [(mo, o6 rm (nI tl) pl (nI np) (nI nq) (nI nd) rt rp rq rd (nI cnt) (nI na) sd rw rx tm tf sm sf), (rm 1, .inl (cI, 5, .inl (fun k_ => nI (P 0 k_)))), (rm 2, .inl (cI, 5, .inl (fun k_ => nI (P 1 k_)))), (rm 3, .inl (cI, 5, .inl (fun k_ => nI (P 2 k_)))), (rm 4, .inl (cI, 5, .inl (fun k_ => nI (P 3 k_)))), (rm 5, .inl (cI, 5, .inl (fun k_ => nI (P 4 k_)))), (rm 6, .inl (cI, 5, .inl (fun k_ => nI (P 5 k_)))), (rm 10, .inl (cI, 20, .inl (mp c))), (rm 11, .inl (cI, 20, .inl (mp gg)))] 36 [(0, .ref mo), (1, .int (nI k)), (2, .int (nI i))] [] := by
        intro n
        induction n with
        | zero => intro i gg hi hg he hn; exact absurd hn (Nat.not_lt_zero _)
        | succ n ih36 =>
          intro i gg hi hg he hn
          refine g_iload_n hC 2 dX6_back_36 rfl rfl ?_
          refine g_bipush (v := nI 20) hC dX6_back_37 (by decide +kernel) ?_
          refine g_icmp_gt_n (a := i) (b := 20) hC (by omega) (by omega) 71 dX6_back_39 (by decide) (fun h39t => ?_) (fun h39f => ?_)
          · refine g_bipush (v := (-9)) hC dX6_back_71 (by decide +kernel) ?_
            subst hQ
            refine g_iret (v := -9) hC (gg) hr ?_ rfl dX6_back_73
            rw [backR, if_pos hin2, hKk, if_pos h24t, he, show 21 - i = 0 by omega]; rfl
          refine g_aload_n hC 0 dX6_back_42 rfl rfl ?_
          refine g_aload_n hC 0 dX6_back_43 rfl rfl ?_
          refine g_get (C := RX6) (T := TX6) (N := 38) (ci := 6) (v := .ref (rm 11)) hC hcw6 0 rfl rfl 21 (by decide) w3 (fun _ h => h) rfl dX6_back_44 ?_
          refine g_iload_n hC 1 dX6_back_47 rfl rfl ?_
          refine g_callVip (As := [.ref (rm 11), .int (nI k)]) (rest := []) hC (bI (canR P gg k)) (c_X6_canRedeem l D cI cZ mo rm tl pl np nq nd rt rp rq rd cnt na sd rw rx tm tf sm sf P (rm 11) gg k (by first | assumption | omega) (by first | assumption | omega)) (cwV 2 hC.1.2.2.2.2 gX6_back_X6_canRedeem rfl rfl rfl dV_X6_canRedeem ⟨Nat.le_of_ble_eq_true rfl, Nat.le_of_ble_eq_true rfl⟩) rfl rfl rfl rfl (Nat.le_of_ble_eq_true rfl) dX6_back_48 ⟨Nat.le_of_ble_eq_true rfl, Nat.le_of_ble_eq_true rfl⟩ [0, 1, 2, 3, 8] rfl rfl ?_
          refine g_if_eq_b hC 56 dX6_back_51 (by decide) (fun h51t => ?_) (fun h51f => ?_)
          · refine g_aload_n hC 0 dX6_back_56 rfl rfl ?_
            refine g_aload_n hC 0 dX6_back_57 rfl rfl ?_
            refine g_get (C := RX6) (T := TX6) (N := 38) (ci := 6) (v := .ref (rm 11)) hC hcw6 0 rfl rfl 21 (by decide) w3 (fun _ h => h) rfl dX6_back_58 ?_
            refine g_callVi (As := [.ref (rm 11)]) (rest := []) hC (c_X6_goDay l D cI cZ mo rm tl pl np nq nd rt rp rq rd cnt na sd rw rx tm tf sm sf P (rm 11) gg (by first | assumption | omega) (by rw [hg]; exact Fr_fresh hW (Fr_passN hW hFr i (by omega)) (by omega))) (cwV 1 hC.1.2.2.2.2 gX6_back_X6_goDay rfl rfl rfl dV_X6_goDay ⟨Nat.le_of_ble_eq_true rfl, Nat.le_of_ble_eq_true rfl⟩) rfl rfl rfl rfl (Nat.le_of_ble_eq_true rfl) dX6_back_61 ⟨Nat.le_of_ble_eq_true rfl, Nat.le_of_ble_eq_true rfl⟩ [0, 1, 3, 4, 5, 6, 8] [2, 7] [2, 3, 0, 4, 5, 6, 7, 1, 8] (fun (_ : Unit) => [(mo, o6 rm (nI tl) pl (nI np) (nI nq) (nI nd) rt rp rq rd (nI cnt) (nI na) sd rw rx tm tf sm sf), (rm 1, .inl (cI, 5, .inl (fun k_ => nI (P 0 k_)))), (rm 2, .inl (cI, 5, .inl (fun k_ => nI (P 1 k_)))), (rm 3, .inl (cI, 5, .inl (fun k_ => nI (P 2 k_)))), (rm 4, .inl (cI, 5, .inl (fun k_ => nI (P 3 k_)))), (rm 5, .inl (cI, 5, .inl (fun k_ => nI (P 4 k_)))), (rm 6, .inl (cI, 5, .inl (fun k_ => nI (P 5 k_)))), (rm 10, .inl (cI, 20, .inl (mp c))), ((rm 11), .inl (cI, 20, .inl (mp (passF P nq nd gg))))]) rfl rfl rfl (fun _ => rfl) (fun r61 z61 hp61 => ?_)
            try dsimp only at hp61
            subst hp61
            refine g_is (ws2 := [(mo, o6 rm (nI tl) pl (nI np) (nI nq) (nI nd) rt rp rq rd (nI cnt) (nI na) sd rw rx tm tf sm sf), (rm 1, .inl (cI, 5, .inl (fun k_ => nI (P 0 k_)))), (rm 2, .inl (cI, 5, .inl (fun k_ => nI (P 1 k_)))), (rm 3, .inl (cI, 5, .inl (fun k_ => nI (P 2 k_)))), (rm 4, .inl (cI, 5, .inl (fun k_ => nI (P 3 k_)))), (rm 5, .inl (cI, 5, .inl (fun k_ => nI (P 4 k_)))), (rm 6, .inl (cI, 5, .inl (fun k_ => nI (P 5 k_)))), (rm 10, .inl (cI, 20, .inl (mp c))), ((rm 11), .inl (cI, 20, .inl (mp (passF P nq nd gg))))]) (lv2 := [(0, .ref mo), (1, .int (nI k)), (2, .int (nI i))]) (st2 := [.int (nI (cntD P gg nd))]) rfl rfl rfl ?_
            refine g_pop hC dX6_back_64 rfl ?_
            refine g_iinc (v := nI (i + 1)) (lv' := [(0, .ref mo), (1, .int (nI k)), (2, .int (nI (i + 1)))]) hC 2 [1, 2, 0] dX6_back_65 rfl (nI_add _ 1) (by decide) rfl ?_
            refine g_goto hC 36 dX6_back_68 (by decide) ?_
            refine ih36 (i + 1) (passF P nq nd gg) ?_ ?_ ?_ ?_
            · omega
            · rw [hg]; rfl
            · rw [he, show 21 - i = (21 - (i + 1)) + 1 by omega]
              show (if canR P (passN P nq nd c i) k then nI i else _) = _
              rw [← hg, if_neg h51t]
            · omega
          refine g_iload_n hC 2 dX6_back_54 rfl rfl ?_
          subst hQ
          refine g_iret (v := nI i) hC (gg) hr ?_ rfl dX6_back_55
          rw [backR, if_pos hin2, hKk, if_pos h24t, he, show 21 - i = (20 - i) + 1 by omega]
          show _ = (if canR P (passN P nq nd c i) k then nI i else _)
          rw [← hg, if_pos h51f]
      refine L36 _ 0 c ?_ ?_ ?_ (Nat.lt_succ_self _)
      · omega
      · rfl
      · rfl
    refine g_bipush (v := (-3)) hC dX6_back_27 (by decide +kernel) ?_
    subst hQ
    refine g_iret (v := -3) hC (g) hr ?_ rfl dX6_back_29
    rw [backR, if_pos hin2, hKk, if_neg h24f]
  refine g_iconst (v := (-1)) hC dX6_back_13 rfl ?_
  subst hQ
  refine g_iret (v := -1) hC (g) hr ?_ rfl dX6_back_14
  rw [backR, if_neg h10f]

abbrev rm_X6_ask : Room := { frames := 1, cells := 0, slots := 0, locals := 25 }
set_option maxRecDepth 100000 in
set_option maxHeartbeats 4000000 in
theorem c_X6_ask (l : Launch) (D : va_G) (cI cZ : ClassId) (mo : Nat) (rm : Nat → Nat) (tl : Nat) (pl : Int32) (np : Nat) (nq : Nat) (nd : Nat) (rt : Int32) (rp : Int32) (rq : Int32) (rd : Int32) (cnt : Nat) (na : Nat) (sd : Int64) (rw : Int32) (rx : Int32) (tm : Int32) (tf : Int32) (sm : Int32) (sf : Int32) (fd : Nat → Int32) (fu : Nat → Int32) (a : Int32) (b : Int32) (hna : na ≤ 6) : CtI l yX6_ask wsX6_ask rm_X6_ask D cI cZ [.ref mo, .int a, .int b] [(mo, o6 rm (nI tl) pl (nI np) (nI nq) (nI nd) rt rp rq rd (nI cnt) (nI na) sd rw rx tm tf sm sf), (rm 15, .inl (cI, 6, .inl fd)), (rm 16, .inl (cI, 6, .inl fu))] (fun r (_ : Unit) => r = askR na a b) (fun (_ : Unit) => [(mo, o6 rm (nI tl) pl (nI np) (nI nq) (nI nd) rt rp rq rd (nI cnt) (nI (askN na a b)) sd rw rx tm tf sm sf), (rm 15, .inl (cI, 6, .inl (askF na fd a b a))), (rm 16, .inl (cI, 6, .inl (askF na fu a b b)))]) 0 0 := by
  refine g_startI (ret := (some .int)) (own := RX6) (lv0 := [(0, .ref mo), (1, .int a), (2, .int b)]) (by decide) rfl rfl (Nat.le_of_ble_eq_true rfl) rfl ?_
  intro p e s m args below meth cd A Q hin hr hQ hC
  have hcw6 : ∀ w ∈ wsX60, w ∈ wsX6_ask := fun _ h => List.mem_cons_of_mem _ (List.mem_append_right _ h)
  have w1 := hC.1.2.2.2.2 (.fieldLink "PluckBrokerModel" 68 "PluckBrokerModel" "thrown" "I") (List.mem_of_getElem? (i := 1) rfl)
  have w2 := hC.1.2.2.2.2 (.constantLong "PluckBrokerModel" 240 8) (List.mem_of_getElem? (i := 2) rfl)
  have w3 := hC.1.2.2.2.2 (.constantLong "PluckBrokerModel" 242 30) (List.mem_of_getElem? (i := 3) rfl)
  have w4 := hC.1.2.2.2.2 (.fieldLink "PluckBrokerModel" 144 "PluckBrokerModel" "asked" "I") (List.mem_of_getElem? (i := 4) rfl)
  have w5 := hC.1.2.2.2.2 (.fieldLink "PluckBrokerModel" 56 "PluckBrokerModel" "askedDay" "[I") (List.mem_of_getElem? (i := 5) rfl)
  have w6 := hC.1.2.2.2.2 (.fieldLink "PluckBrokerModel" 59 "PluckBrokerModel" "askedDue" "[I") (List.mem_of_getElem? (i := 6) rfl)
  refine g_aload_n hC 0 dX6_ask_0 rfl rfl ?_
  refine g_iconst (v := nI 0) hC dX6_ask_1 rfl ?_
  refine g_put (C := RX6) (T := TX6) (N := 38) (ci := 6) (v := .int (nI 0)) hC hcw6 tyX6 tyX6_ok nmX6 0 rfl rfl 0 (by decide) w1 (fun _ h => h) rfl (tyX6_ok 0 (by decide)) rfl rfl (Nat.le_of_ble_eq_true rfl) [(mo, o6 rm (nI tl) pl (nI np) (nI nq) (nI nd) rt rp rq rd (nI cnt) (nI na) sd rw rx tm tf sm sf), (rm 15, .inl (cI, 6, .inl fd)), (rm 16, .inl (cI, 6, .inl fu))] rfl dX6_ask_2 ?_
  refine g_iload_n hC 1 dX6_ask_5 rfl rfl ?_
  refine g_i2l hC dX6_ask_6 rfl ?_
  refine g_lconst (v := (nI 0).toInt64) hC dX6_ask_7 (by decide +kernel) ?_
  refine g_ldc2 (v := 8) hC w2 dX6_ask_8 ?_
  refine g_topl (y := (nI 8).toInt64) (by decide +kernel) ?_
  refine g_callSip (As := [.long a.toInt64, .long ((nI 0).toInt64), .long ((nI 8).toInt64)]) (rest := []) hC (bI ((nI 0) ≤ a ∧ a ≤ (nI 8))) (c_X6_in l D cI cZ a (nI 0) (nI 8)) (va_cwS 3 hC.1.2.2.2.2 gX6_ask_X6_in rfl rfl rfl dS_X6_in ⟨Nat.le_of_ble_eq_true rfl, Nat.le_of_ble_eq_true rfl⟩) rfl rfl (Nat.le_of_ble_eq_true rfl) dX6_ask_11 ⟨Nat.le_of_ble_eq_true rfl, Nat.le_of_ble_eq_true rfl⟩ [] rfl rfl ?_
  refine g_if_eq_b hC 29 dX6_ask_14 (by decide) (fun h14t => ?_) (fun h14f => ?_)
  · have no : ¬ ((nI 0 ≤ a ∧ a ≤ nI 8) ∧ (nI 0 ≤ b ∧ b ≤ nI 30)) := fun q => h14t q.1
    have ecell : fd = (askF na fd a b a) := by rw [askF, if_neg no]
    refine g_ws (ws2 := [(mo, o6 rm (nI tl) pl (nI np) (nI nq) (nI nd) rt rp rq rd (nI cnt) (nI na) sd rw rx tm tf sm sf), (rm 15, .inl (cI, 6, .inl (askF na fd a b a))), (rm 16, .inl (cI, 6, .inl fu))]) (congrArg (fun zz : Nat → Int32 => ([(mo, o6 rm (nI tl) pl (nI np) (nI nq) (nI nd) rt rp rq rd (nI cnt) (nI na) sd rw rx tm tf sm sf), (rm 15, .inl (cI, 6, .inl zz)), (rm 16, .inl (cI, 6, .inl fu))] : va_W)) ecell) ?_
    have ecell : fu = (askF na fu a b b) := by rw [askF, if_neg no]
    refine g_ws (ws2 := [(mo, o6 rm (nI tl) pl (nI np) (nI nq) (nI nd) rt rp rq rd (nI cnt) (nI na) sd rw rx tm tf sm sf), (rm 15, .inl (cI, 6, .inl (askF na fd a b a))), (rm 16, .inl (cI, 6, .inl (askF na fu a b b)))]) (congrArg (fun zz : Nat → Int32 => ([(mo, o6 rm (nI tl) pl (nI np) (nI nq) (nI nd) rt rp rq rd (nI cnt) (nI na) sd rw rx tm tf sm sf), (rm 15, .inl (cI, 6, .inl (askF na fd a b a))), (rm 16, .inl (cI, 6, .inl zz))] : va_W)) ecell) ?_
    have efld : (na : Nat) = askN na a b := by rw [askN, if_neg no]
    refine g_ws (ws2 := [(mo, o6 rm (nI tl) pl (nI np) (nI nq) (nI nd) rt rp rq rd (nI cnt) (nI (askN na a b)) sd rw rx tm tf sm sf), (rm 15, .inl (cI, 6, .inl (askF na fd a b a))), (rm 16, .inl (cI, 6, .inl (askF na fu a b b)))]) (congrArg (fun zz : Nat => ([(mo, o6 rm (nI tl) pl (nI np) (nI nq) (nI nd) rt rp rq rd (nI cnt) (nI zz) sd rw rx tm tf sm sf), (rm 15, .inl (cI, 6, .inl (askF na fd a b a))), (rm 16, .inl (cI, 6, .inl (askF na fu a b b)))] : va_W)) efld) ?_
    refine g_bipush (v := (-2)) hC dX6_ask_29 (by decide +kernel) ?_
    subst hQ
    refine g_iret (v := -2) hC () hr ?_ rfl dX6_ask_31
    rw [askR, if_neg no]
  refine g_iload_n hC 2 dX6_ask_17 rfl rfl ?_
  refine g_i2l hC dX6_ask_18 rfl ?_
  refine g_lconst (v := (nI 0).toInt64) hC dX6_ask_19 (by decide +kernel) ?_
  refine g_ldc2 (v := 30) hC w3 dX6_ask_20 ?_
  refine g_topl (y := (nI 30).toInt64) (by decide +kernel) ?_
  refine g_callSip (As := [.long b.toInt64, .long ((nI 0).toInt64), .long ((nI 30).toInt64)]) (rest := []) hC (bI ((nI 0) ≤ b ∧ b ≤ (nI 30))) (c_X6_in l D cI cZ b (nI 0) (nI 30)) (va_cwS 3 hC.1.2.2.2.2 gX6_ask_X6_in rfl rfl rfl dS_X6_in ⟨Nat.le_of_ble_eq_true rfl, Nat.le_of_ble_eq_true rfl⟩) rfl rfl (Nat.le_of_ble_eq_true rfl) dX6_ask_23 ⟨Nat.le_of_ble_eq_true rfl, Nat.le_of_ble_eq_true rfl⟩ [] rfl rfl ?_
  refine g_if_ne_b hC 32 dX6_ask_26 (by decide) (fun h26t => ?_) (fun h26f => ?_)
  · have ok : ((nI 0 ≤ a ∧ a ≤ nI 8) ∧ (nI 0 ≤ b ∧ b ≤ nI 30)) := ⟨h14f, h26t⟩
    refine g_aload_n hC 0 dX6_ask_32 rfl rfl ?_
    refine g_get (C := RX6) (T := TX6) (N := 38) (ci := 6) (v := .int (nI na)) hC hcw6 0 rfl rfl 26 (by decide) w4 (fun _ h => h) rfl dX6_ask_33 ?_
    refine g_bipush (v := nI 6) hC dX6_ask_36 (by decide +kernel) ?_
    refine g_icmp_ne_n (a := na) (b := 6) hC (by omega) (by omega) 44 dX6_ask_38 (by decide) (fun h38t => ?_) (fun h38f => ?_)
    · refine g_aload_n hC 0 dX6_ask_44 rfl rfl ?_
      refine g_get (C := RX6) (T := TX6) (N := 38) (ci := 6) (v := .ref (rm 15)) hC hcw6 0 rfl rfl 27 (by decide) w5 (fun _ h => h) rfl dX6_ask_45 ?_
      refine g_aload_n hC 0 dX6_ask_48 rfl rfl ?_
      refine g_get (C := RX6) (T := TX6) (N := 38) (ci := 6) (v := .int (nI na)) hC hcw6 0 rfl rfl 26 (by decide) w4 (fun _ h => h) rfl dX6_ask_49 ?_
      refine g_iload_n hC 1 dX6_ask_52 rfl rfl ?_
      refine g_iast hC 1 rfl na rfl (by omega) (by decide) [(mo, o6 rm (nI tl) pl (nI np) (nI nq) (nI nd) rt rp rq rd (nI cnt) (nI na) sd rw rx tm tf sm sf), (rm 15, .inl (cI, 6, .inl (upd fd na a))), (rm 16, .inl (cI, 6, .inl fu))] rfl dX6_ask_53 ?_
      refine g_aload_n hC 0 dX6_ask_54 rfl rfl ?_
      refine g_get (C := RX6) (T := TX6) (N := 38) (ci := 6) (v := .ref (rm 16)) hC hcw6 0 rfl rfl 28 (by decide) w6 (fun _ h => h) rfl dX6_ask_55 ?_
      refine g_aload_n hC 0 dX6_ask_58 rfl rfl ?_
      refine g_get (C := RX6) (T := TX6) (N := 38) (ci := 6) (v := .int (nI na)) hC hcw6 0 rfl rfl 26 (by decide) w4 (fun _ h => h) rfl dX6_ask_59 ?_
      refine g_iload_n hC 2 dX6_ask_62 rfl rfl ?_
      refine g_iast hC 2 rfl na rfl (by omega) (by decide) [(mo, o6 rm (nI tl) pl (nI np) (nI nq) (nI nd) rt rp rq rd (nI cnt) (nI na) sd rw rx tm tf sm sf), (rm 15, .inl (cI, 6, .inl (upd fd na a))), (rm 16, .inl (cI, 6, .inl (upd fu na b)))] rfl dX6_ask_63 ?_
      refine g_aload_n hC 0 dX6_ask_64 rfl rfl ?_
      refine g_dup hC dX6_ask_65 rfl ?_
      refine g_get (C := RX6) (T := TX6) (N := 38) (ci := 6) (v := .int (nI na)) hC hcw6 0 rfl rfl 26 (by decide) w4 (fun _ h => h) rfl dX6_ask_66 ?_
      refine g_iconst (v := nI 1) hC dX6_ask_69 rfl ?_
      refine g_iadd_n (a := na) (b := 1) hC dX6_ask_70 ?_
      refine g_put (C := RX6) (T := TX6) (N := 38) (ci := 6) (v := .int (nI (na + 1))) hC hcw6 tyX6 tyX6_ok nmX6 0 rfl rfl 26 (by decide) w4 (fun _ h => h) rfl (tyX6_ok 26 (by decide)) rfl rfl (Nat.le_of_ble_eq_true rfl) [(mo, o6 rm (nI tl) pl (nI np) (nI nq) (nI nd) rt rp rq rd (nI cnt) (nI (na + 1)) sd rw rx tm tf sm sf), (rm 15, .inl (cI, 6, .inl (upd fd na a))), (rm 16, .inl (cI, 6, .inl (upd fu na b)))] rfl dX6_ask_71 ?_
      refine g_aload_n hC 0 dX6_ask_74 rfl rfl ?_
      refine g_get (C := RX6) (T := TX6) (N := 38) (ci := 6) (v := .int (nI (na + 1))) hC hcw6 0 rfl rfl 26 (by decide) w4 (fun _ h => h) rfl dX6_ask_75 ?_
      have ecell : (upd fd na a) = (askF na fd a b a) := by rw [askF, if_pos ok, if_pos (by omega)]
      refine g_ws (ws2 := [(mo, o6 rm (nI tl) pl (nI np) (nI nq) (nI nd) rt rp rq rd (nI cnt) (nI (na + 1)) sd rw rx tm tf sm sf), (rm 15, .inl (cI, 6, .inl (askF na fd a b a))), (rm 16, .inl (cI, 6, .inl (upd fu na b)))]) (congrArg (fun zz : Nat → Int32 => ([(mo, o6 rm (nI tl) pl (nI np) (nI nq) (nI nd) rt rp rq rd (nI cnt) (nI (na + 1)) sd rw rx tm tf sm sf), (rm 15, .inl (cI, 6, .inl zz)), (rm 16, .inl (cI, 6, .inl (upd fu na b)))] : va_W)) ecell) ?_
      have ecell : (upd fu na b) = (askF na fu a b b) := by rw [askF, if_pos ok, if_pos (by omega)]
      refine g_ws (ws2 := [(mo, o6 rm (nI tl) pl (nI np) (nI nq) (nI nd) rt rp rq rd (nI cnt) (nI (na + 1)) sd rw rx tm tf sm sf), (rm 15, .inl (cI, 6, .inl (askF na fd a b a))), (rm 16, .inl (cI, 6, .inl (askF na fu a b b)))]) (congrArg (fun zz : Nat → Int32 => ([(mo, o6 rm (nI tl) pl (nI np) (nI nq) (nI nd) rt rp rq rd (nI cnt) (nI (na + 1)) sd rw rx tm tf sm sf), (rm 15, .inl (cI, 6, .inl (askF na fd a b a))), (rm 16, .inl (cI, 6, .inl zz))] : va_W)) ecell) ?_
      have efld : (na + 1 : Nat) = askN na a b := by rw [askN, if_pos ok, if_pos (by omega)]
      refine g_ws (ws2 := [(mo, o6 rm (nI tl) pl (nI np) (nI nq) (nI nd) rt rp rq rd (nI cnt) (nI (askN na a b)) sd rw rx tm tf sm sf), (rm 15, .inl (cI, 6, .inl (askF na fd a b a))), (rm 16, .inl (cI, 6, .inl (askF na fu a b b)))]) (congrArg (fun zz : Nat => ([(mo, o6 rm (nI tl) pl (nI np) (nI nq) (nI nd) rt rp rq rd (nI cnt) (nI zz) sd rw rx tm tf sm sf), (rm 15, .inl (cI, 6, .inl (askF na fd a b a))), (rm 16, .inl (cI, 6, .inl (askF na fu a b b)))] : va_W)) efld) ?_
      subst hQ
      refine g_iret (v := nI (na + 1)) hC () hr ?_ rfl dX6_ask_78
      rw [askR, if_pos ok, if_pos (by omega)]
    have ecell : fd = (askF na fd a b a) := by rw [askF, if_pos ok, if_neg (by omega)]
    refine g_ws (ws2 := [(mo, o6 rm (nI tl) pl (nI np) (nI nq) (nI nd) rt rp rq rd (nI cnt) (nI na) sd rw rx tm tf sm sf), (rm 15, .inl (cI, 6, .inl (askF na fd a b a))), (rm 16, .inl (cI, 6, .inl fu))]) (congrArg (fun zz : Nat → Int32 => ([(mo, o6 rm (nI tl) pl (nI np) (nI nq) (nI nd) rt rp rq rd (nI cnt) (nI na) sd rw rx tm tf sm sf), (rm 15, .inl (cI, 6, .inl zz)), (rm 16, .inl (cI, 6, .inl fu))] : va_W)) ecell) ?_
    have ecell : fu = (askF na fu a b b) := by rw [askF, if_pos ok, if_neg (by omega)]
    refine g_ws (ws2 := [(mo, o6 rm (nI tl) pl (nI np) (nI nq) (nI nd) rt rp rq rd (nI cnt) (nI na) sd rw rx tm tf sm sf), (rm 15, .inl (cI, 6, .inl (askF na fd a b a))), (rm 16, .inl (cI, 6, .inl (askF na fu a b b)))]) (congrArg (fun zz : Nat → Int32 => ([(mo, o6 rm (nI tl) pl (nI np) (nI nq) (nI nd) rt rp rq rd (nI cnt) (nI na) sd rw rx tm tf sm sf), (rm 15, .inl (cI, 6, .inl (askF na fd a b a))), (rm 16, .inl (cI, 6, .inl zz))] : va_W)) ecell) ?_
    have efld : (na : Nat) = askN na a b := by rw [askN, if_pos ok, if_neg (by omega)]
    refine g_ws (ws2 := [(mo, o6 rm (nI tl) pl (nI np) (nI nq) (nI nd) rt rp rq rd (nI cnt) (nI (askN na a b)) sd rw rx tm tf sm sf), (rm 15, .inl (cI, 6, .inl (askF na fd a b a))), (rm 16, .inl (cI, 6, .inl (askF na fu a b b)))]) (congrArg (fun zz : Nat => ([(mo, o6 rm (nI tl) pl (nI np) (nI nq) (nI nd) rt rp rq rd (nI cnt) (nI zz) sd rw rx tm tf sm sf), (rm 15, .inl (cI, 6, .inl (askF na fd a b a))), (rm 16, .inl (cI, 6, .inl (askF na fu a b b)))] : va_W)) efld) ?_
    refine g_bipush (v := (-4)) hC dX6_ask_41 (by decide +kernel) ?_
    subst hQ
    refine g_iret (v := -4) hC () hr ?_ rfl dX6_ask_43
    rw [askR, if_pos ok, if_neg (by omega)]
  have no : ¬ ((nI 0 ≤ a ∧ a ≤ nI 8) ∧ (nI 0 ≤ b ∧ b ≤ nI 30)) := fun q => h26f q.2
  have ecell : fd = (askF na fd a b a) := by rw [askF, if_neg no]
  refine g_ws (ws2 := [(mo, o6 rm (nI tl) pl (nI np) (nI nq) (nI nd) rt rp rq rd (nI cnt) (nI na) sd rw rx tm tf sm sf), (rm 15, .inl (cI, 6, .inl (askF na fd a b a))), (rm 16, .inl (cI, 6, .inl fu))]) (congrArg (fun zz : Nat → Int32 => ([(mo, o6 rm (nI tl) pl (nI np) (nI nq) (nI nd) rt rp rq rd (nI cnt) (nI na) sd rw rx tm tf sm sf), (rm 15, .inl (cI, 6, .inl zz)), (rm 16, .inl (cI, 6, .inl fu))] : va_W)) ecell) ?_
  have ecell : fu = (askF na fu a b b) := by rw [askF, if_neg no]
  refine g_ws (ws2 := [(mo, o6 rm (nI tl) pl (nI np) (nI nq) (nI nd) rt rp rq rd (nI cnt) (nI na) sd rw rx tm tf sm sf), (rm 15, .inl (cI, 6, .inl (askF na fd a b a))), (rm 16, .inl (cI, 6, .inl (askF na fu a b b)))]) (congrArg (fun zz : Nat → Int32 => ([(mo, o6 rm (nI tl) pl (nI np) (nI nq) (nI nd) rt rp rq rd (nI cnt) (nI na) sd rw rx tm tf sm sf), (rm 15, .inl (cI, 6, .inl (askF na fd a b a))), (rm 16, .inl (cI, 6, .inl zz))] : va_W)) ecell) ?_
  have efld : (na : Nat) = askN na a b := by rw [askN, if_neg no]
  refine g_ws (ws2 := [(mo, o6 rm (nI tl) pl (nI np) (nI nq) (nI nd) rt rp rq rd (nI cnt) (nI (askN na a b)) sd rw rx tm tf sm sf), (rm 15, .inl (cI, 6, .inl (askF na fd a b a))), (rm 16, .inl (cI, 6, .inl (askF na fu a b b)))]) (congrArg (fun zz : Nat => ([(mo, o6 rm (nI tl) pl (nI np) (nI nq) (nI nd) rt rp rq rd (nI cnt) (nI zz) sd rw rx tm tf sm sf), (rm 15, .inl (cI, 6, .inl (askF na fd a b a))), (rm 16, .inl (cI, 6, .inl (askF na fu a b b)))] : va_W)) efld) ?_
  refine g_bipush (v := (-2)) hC dX6_ask_29 (by decide +kernel) ?_
  subst hQ
  refine g_iret (v := -2) hC () hr ?_ rfl dX6_ask_31
  rw [askR, if_neg no]

abbrev rm_X6_unask : Room := { frames := 0, cells := 0, slots := 0, locals := 0 }
set_option maxRecDepth 100000 in
set_option maxHeartbeats 4000000 in
theorem c_X6_unask (l : Launch) (D : va_G) (cI cZ : ClassId) (mo : Nat) (rm : Nat → Nat) (tl : Nat) (pl : Int32) (np : Nat) (nq : Nat) (nd : Nat) (rt : Int32) (rp : Int32) (rq : Int32) (rd : Int32) (cnt : Nat) (na : Nat) (sd : Int64) (rw : Int32) (rx : Int32) (tm : Int32) (tf : Int32) (sm : Int32) (sf : Int32) : CtI l yX6_unask wsX6_unask rm_X6_unask D cI cZ [.ref mo] [(mo, o6 rm (nI tl) pl (nI np) (nI nq) (nI nd) rt rp rq rd (nI cnt) (nI na) sd rw rx tm tf sm sf)] (fun r (_ : Unit) => r = nI na) (fun (_ : Unit) => [(mo, o6 rm (nI tl) pl (nI np) (nI nq) (nI nd) rt rp rq rd (nI cnt) (nI 0) sd rw rx tm tf sm sf)]) 0 0 := by
  refine g_startI (ret := (some .int)) (own := RX6) (lv0 := [(0, .ref mo)]) (by decide) rfl rfl (Nat.le_of_ble_eq_true rfl) rfl ?_
  intro p e s m args below meth cd A Q hin hr hQ hC
  have hcw6 : ∀ w ∈ wsX60, w ∈ wsX6_unask := fun _ h => List.mem_cons_of_mem _ (List.mem_append_right _ h)
  have w1 := hC.1.2.2.2.2 (.fieldLink "PluckBrokerModel" 68 "PluckBrokerModel" "thrown" "I") (List.mem_of_getElem? (i := 1) rfl)
  have w2 := hC.1.2.2.2.2 (.fieldLink "PluckBrokerModel" 144 "PluckBrokerModel" "asked" "I") (List.mem_of_getElem? (i := 2) rfl)
  refine g_aload_n hC 0 dX6_unask_0 rfl rfl ?_
  refine g_iconst (v := nI 0) hC dX6_unask_1 rfl ?_
  refine g_put (C := RX6) (T := TX6) (N := 38) (ci := 6) (v := .int (nI 0)) hC hcw6 tyX6 tyX6_ok nmX6 0 rfl rfl 0 (by decide) w1 (fun _ h => h) rfl (tyX6_ok 0 (by decide)) rfl rfl (Nat.le_of_ble_eq_true rfl) [(mo, o6 rm (nI tl) pl (nI np) (nI nq) (nI nd) rt rp rq rd (nI cnt) (nI na) sd rw rx tm tf sm sf)] rfl dX6_unask_2 ?_
  refine g_aload_n hC 0 dX6_unask_5 rfl rfl ?_
  refine g_get (C := RX6) (T := TX6) (N := 38) (ci := 6) (v := .int (nI na)) hC hcw6 0 rfl rfl 26 (by decide) w2 (fun _ h => h) rfl dX6_unask_6 ?_
  refine g_istore_n (lv' := [(0, .ref mo), (1, .int (nI na))]) hC [1, 0] dX6_unask_9 rfl (by decide) rfl ?_
  refine g_aload_n hC 0 dX6_unask_10 rfl rfl ?_
  refine g_iconst (v := nI 0) hC dX6_unask_11 rfl ?_
  refine g_put (C := RX6) (T := TX6) (N := 38) (ci := 6) (v := .int (nI 0)) hC hcw6 tyX6 tyX6_ok nmX6 0 rfl rfl 26 (by decide) w2 (fun _ h => h) rfl (tyX6_ok 26 (by decide)) rfl rfl (Nat.le_of_ble_eq_true rfl) [(mo, o6 rm (nI tl) pl (nI np) (nI nq) (nI nd) rt rp rq rd (nI cnt) (nI 0) sd rw rx tm tf sm sf)] rfl dX6_unask_12 ?_
  refine g_iload_n hC 1 dX6_unask_15 rfl rfl ?_
  subst hQ
  refine g_iret (v := nI na) hC () hr ?_ rfl dX6_unask_16
  rfl

abbrev rm_X6_seed : Room := { frames := 0, cells := 0, slots := 0, locals := 0 }
set_option maxRecDepth 100000 in
set_option maxHeartbeats 4000000 in
theorem c_X6_seed (l : Launch) (D : va_G) (cI cZ : ClassId) (mo : Nat) (rm : Nat → Nat) (tl : Nat) (pl : Int32) (np : Nat) (nq : Nat) (nd : Nat) (rt : Int32) (rp : Int32) (rq : Int32) (rd : Int32) (cnt : Nat) (na : Nat) (sd : Int64) (rw : Int32) (rx : Int32) (tm : Int32) (tf : Int32) (sm : Int32) (sf : Int32) (v : Int64) : CtL l yX6_seed wsX6_seed rm_X6_seed D cI cZ [.ref mo, .long v] [(mo, o6 rm (nI tl) pl (nI np) (nI nq) (nI nd) rt rp rq rd (nI cnt) (nI na) sd rw rx tm tf sm sf)] (fun r (_ : Unit) => r = sd) (fun (_ : Unit) => [(mo, o6 rm (nI tl) pl (nI np) (nI nq) (nI nd) rt rp rq rd (nI cnt) (nI na) v rw rx tm tf sm sf)]) 0 0 := by
  refine g_startL (ret := (some .long)) (own := RX6) (lv0 := [(0, .ref mo), (1, .long v)]) (by decide) rfl rfl (Nat.le_of_ble_eq_true rfl) rfl ?_
  intro p e s m args below meth cd A Q hin hr hQ hC
  have hcw6 : ∀ w ∈ wsX60, w ∈ wsX6_seed := fun _ h => List.mem_cons_of_mem _ (List.mem_append_right _ h)
  have w1 := hC.1.2.2.2.2 (.fieldLink "PluckBrokerModel" 68 "PluckBrokerModel" "thrown" "I") (List.mem_of_getElem? (i := 1) rfl)
  have w2 := hC.1.2.2.2.2 (.fieldLink "PluckBrokerModel" 266 "PluckBrokerModel" "seed" "J") (List.mem_of_getElem? (i := 2) rfl)
  refine g_aload_n hC 0 dX6_seed_0 rfl rfl ?_
  refine g_iconst (v := nI 0) hC dX6_seed_1 rfl ?_
  refine g_put (C := RX6) (T := TX6) (N := 38) (ci := 6) (v := .int (nI 0)) hC hcw6 tyX6 tyX6_ok nmX6 0 rfl rfl 0 (by decide) w1 (fun _ h => h) rfl (tyX6_ok 0 (by decide)) rfl rfl (Nat.le_of_ble_eq_true rfl) [(mo, o6 rm (nI tl) pl (nI np) (nI nq) (nI nd) rt rp rq rd (nI cnt) (nI na) sd rw rx tm tf sm sf)] rfl dX6_seed_2 ?_
  refine g_aload_n hC 0 dX6_seed_5 rfl rfl ?_
  refine g_get (C := RX6) (T := TX6) (N := 38) (ci := 6) (v := .long sd) hC hcw6 0 rfl rfl 29 (by decide) w2 (fun _ h => h) rfl dX6_seed_6 ?_
  refine g_lstore_n (lv' := [(0, .ref mo), (1, .long v), (3, .long sd)]) hC [1, 2, 0] dX6_seed_9 rfl (by decide) rfl ?_
  refine g_aload_n hC 0 dX6_seed_10 rfl rfl ?_
  refine g_lload_n hC 1 dX6_seed_11 rfl rfl ?_
  refine g_put (C := RX6) (T := TX6) (N := 38) (ci := 6) (v := .long v) hC hcw6 tyX6 tyX6_ok nmX6 0 rfl rfl 29 (by decide) w2 (fun _ h => h) rfl (tyX6_ok 29 (by decide)) rfl rfl (Nat.le_of_ble_eq_true rfl) [(mo, o6 rm (nI tl) pl (nI np) (nI nq) (nI nd) rt rp rq rd (nI cnt) (nI na) v rw rx tm tf sm sf)] rfl dX6_seed_12 ?_
  refine g_lload_n hC 2 dX6_seed_15 rfl rfl ?_
  subst hQ
  refine g_lret (v := sd) hC () hr ?_ rfl dX6_seed_16
  rfl

abbrev rm_X6_keep : Room := { frames := 1, cells := 0, slots := 0, locals := 25 }
set_option maxRecDepth 100000 in
set_option maxHeartbeats 4000000 in
theorem c_X6_keep (l : Launch) (D : va_G) (cI cZ : ClassId) (mo : Nat) (rm : Nat → Nat) (tl : Nat) (pl : Int32) (np : Nat) (nq : Nat) (nd : Nat) (rt : Int32) (rp : Int32) (rq : Int32) (rd : Int32) (cnt : Nat) (na : Nat) (sd : Int64) (rw : Int32) (rx : Int32) (tm : Int32) (tf : Int32) (sm : Int32) (sf : Int32) (c : Nat → Int32) (mk : Nat → Int32) (ik : Nat → Int32) (a : Int32) : CtI l yX6_keep wsX6_keep rm_X6_keep D cI cZ [.ref mo, .int a] [(mo, o6 rm (nI tl) pl (nI np) (nI nq) (nI nd) rt rp rq rd (nI cnt) (nI na) sd rw rx tm tf sm sf), (rm 10, .inl (cI, 20, .inl (mp c))), (rm 13, .inl (cI, 40, .inl mk)), (rm 14, .inl (cZ, 2, .inl ik))] (fun (r : Int32) (z : (Nat → Int32) × (Nat → Int32)) => match z with | (mk2, ik2) => (r, mk2, ik2) = if okS a then (c 1, saveF mk (mp c) (K a), upd ik (K a) (nI 1)) else ((-1), mk, ik)) (fun (z : (Nat → Int32) × (Nat → Int32)) => match z with | (mk2, ik2) => [(mo, o6 rm (nI tl) pl (nI np) (nI nq) (nI nd) rt rp rq rd (nI cnt) (nI na) sd rw rx tm tf sm sf), (rm 10, .inl (cI, 20, .inl (mp c))), (rm 13, .inl (cI, 40, .inl mk2)), (rm 14, .inl (cZ, 2, .inl ik2))]) 0 0 := by
  refine g_startI (ret := (some .int)) (own := RX6) (lv0 := [(0, .ref mo), (1, .int a)]) (by decide) rfl rfl (Nat.le_of_ble_eq_true rfl) rfl ?_
  intro p e s m args below meth cd A Q hin hr hQ hC
  have hcw6 : ∀ w ∈ wsX60, w ∈ wsX6_keep := fun _ h => List.mem_cons_of_mem _ (List.mem_append_right _ h)
  have w1 := hC.1.2.2.2.2 (.fieldLink "PluckBrokerModel" 68 "PluckBrokerModel" "thrown" "I") (List.mem_of_getElem? (i := 1) rfl)
  have w2 := hC.1.2.2.2.2 (.fieldLink "PluckBrokerModel" 52 "PluckBrokerModel" "isKept" "[Z") (List.mem_of_getElem? (i := 2) rfl)
  have w3 := hC.1.2.2.2.2 (.fieldLink "PluckBrokerModel" 49 "PluckBrokerModel" "kept" "[I") (List.mem_of_getElem? (i := 3) rfl)
  have w4 := hC.1.2.2.2.2 (.fieldLink "PluckBrokerModel" 40 "PluckBrokerModel" "page" "[I") (List.mem_of_getElem? (i := 4) rfl)
  refine g_aload_n hC 0 dX6_keep_0 rfl rfl ?_
  refine g_iconst (v := nI 0) hC dX6_keep_1 rfl ?_
  refine g_put (C := RX6) (T := TX6) (N := 38) (ci := 6) (v := .int (nI 0)) hC hcw6 tyX6 tyX6_ok nmX6 0 rfl rfl 0 (by decide) w1 (fun _ h => h) rfl (tyX6_ok 0 (by decide)) rfl rfl (Nat.le_of_ble_eq_true rfl) [(mo, o6 rm (nI tl) pl (nI np) (nI nq) (nI nd) rt rp rq rd (nI cnt) (nI na) sd rw rx tm tf sm sf), (rm 10, .inl (cI, 20, .inl (mp c))), (rm 13, .inl (cI, 40, .inl mk)), (rm 14, .inl (cZ, 2, .inl ik))] rfl dX6_keep_2 ?_
  refine g_iload_n hC 1 dX6_keep_5 rfl rfl ?_
  refine g_i2l hC dX6_keep_6 rfl ?_
  refine g_lconst (v := (nI 0).toInt64) hC dX6_keep_7 (by decide +kernel) ?_
  refine g_lconst (v := (nI 1).toInt64) hC dX6_keep_8 (by decide +kernel) ?_
  refine g_callSip (As := [.long a.toInt64, .long ((nI 0).toInt64), .long ((nI 1).toInt64)]) (rest := []) hC (bI ((nI 0) ≤ a ∧ a ≤ (nI 1))) (c_X6_in l D cI cZ a (nI 0) (nI 1)) (va_cwS 3 hC.1.2.2.2.2 gX6_keep_X6_in rfl rfl rfl dS_X6_in ⟨Nat.le_of_ble_eq_true rfl, Nat.le_of_ble_eq_true rfl⟩) rfl rfl (Nat.le_of_ble_eq_true rfl) dX6_keep_9 ⟨Nat.le_of_ble_eq_true rfl, Nat.le_of_ble_eq_true rfl⟩ [] rfl rfl ?_
  refine g_if_ne_b hC 17 dX6_keep_12 (by decide) (fun h12t => ?_) (fun h12f => ?_)
  · obtain ⟨k, hk, rfl⟩ := ok_n (M := 1) (by decide) h12t
    have oks : okS (nI k) := inR_k (n := 2) (by decide) (by omega)
    have hKk : K (nI k) = k := K_n (by omega)
    refine g_aload_n hC 0 dX6_keep_17 rfl rfl ?_
    refine g_get (C := RX6) (T := TX6) (N := 38) (ci := 6) (v := .ref (rm 14)) hC hcw6 0 rfl rfl 25 (by decide) w2 (fun _ h => h) rfl dX6_keep_18 ?_
    refine g_iload_n hC 1 dX6_keep_21 rfl rfl ?_
    refine g_iconst (v := nI 1) hC dX6_keep_22 rfl ?_
    refine g_zast hC 3 rfl k rfl (by omega) (by decide) (by decide +kernel) [(mo, o6 rm (nI tl) pl (nI np) (nI nq) (nI nd) rt rp rq rd (nI cnt) (nI na) sd rw rx tm tf sm sf), (rm 10, .inl (cI, 20, .inl (mp c))), (rm 13, .inl (cI, 40, .inl mk)), (rm 14, .inl (cZ, 2, .inl (upd ik k (nI 1))))] rfl dX6_keep_23 ?_
    refine g_iconst (v := nI 0) hC dX6_keep_24 rfl ?_
    refine g_istore_n (lv' := [(0, .ref mo), (1, .int (nI k)), (2, .int (nI 0))]) hC [1, 2, 0] dX6_keep_25 rfl (by decide) rfl ?_
    have L26 : ∀ (n : Nat) (i : Nat) (kk : Nat → Int32), (i ≤ 20) → (kk = wrG mk (20 * k) (mp c) i) → 20 - i < n → G p l e rm_X6_keep s m args below meth cd D A 0 0 Q 3 [(mo, o6 rm (nI tl) pl (nI np) (nI nq) (nI nd) rt rp rq rd (nI cnt) (nI na) sd rw rx tm tf sm sf), (rm 10, .inl (cI, 20, .inl (mp c))), (rm 13, .inl (cI, 40, .inl kk)), (rm 14, .inl (cZ, 2, .inl (upd ik k (nI 1))))] 26 [(0, .ref mo), (1, .int (nI k)), (2, .int (nI i))] [] := by
      intro n
      induction n with
      | zero => intro i kk hi hkk hn; exact absurd hn (Nat.not_lt_zero _)
      | succ n ih26 =>
        intro i kk hi hkk hn
        refine g_iload_n hC 2 dX6_keep_26 rfl rfl ?_
        refine g_bipush (v := nI 20) hC dX6_keep_27 (by decide +kernel) ?_
        refine g_icmp_ge_n (a := i) (b := 20) hC (by omega) (by omega) 55 dX6_keep_29 (by decide) (fun h29t => ?_) (fun h29f => ?_)
        · have ei : i = 20 := by omega
          rw [ei, wrG_save] at hkk
          have ecell : kk = (saveF mk (mp c) k) := by exact hkk
          refine g_ws (ws2 := [(mo, o6 rm (nI tl) pl (nI np) (nI nq) (nI nd) rt rp rq rd (nI cnt) (nI na) sd rw rx tm tf sm sf), (rm 10, .inl (cI, 20, .inl (mp c))), (rm 13, .inl (cI, 40, .inl (saveF mk (mp c) k))), (rm 14, .inl (cZ, 2, .inl (upd ik k (nI 1))))]) (congrArg (fun zz : Nat → Int32 => ([(mo, o6 rm (nI tl) pl (nI np) (nI nq) (nI nd) rt rp rq rd (nI cnt) (nI na) sd rw rx tm tf sm sf), (rm 10, .inl (cI, 20, .inl (mp c))), (rm 13, .inl (cI, 40, .inl zz)), (rm 14, .inl (cZ, 2, .inl (upd ik k (nI 1))))] : va_W)) ecell) ?_
          refine g_aload_n hC 0 dX6_keep_55 rfl rfl ?_
          refine g_get (C := RX6) (T := TX6) (N := 38) (ci := 6) (v := .ref (rm 10)) hC hcw6 0 rfl rfl 20 (by decide) w4 (fun _ h => h) rfl dX6_keep_56 ?_
          refine g_bipush (v := nI 19) hC dX6_keep_59 (by decide +kernel) ?_
          refine g_iald hC 1 rfl 19 rfl (by omega) (by decide) dX6_keep_61 ?_
          refine g_top (y := c 1) (mp_19 _) ?_
          subst hQ
          refine g_iret (v := c 1) hC (saveF mk (mp c) k, upd ik k (nI 1)) hr ?_ rfl dX6_keep_62
          rw [if_pos oks, hKk]
        refine g_aload_n hC 0 dX6_keep_32 rfl rfl ?_
        refine g_get (C := RX6) (T := TX6) (N := 38) (ci := 6) (v := .ref (rm 13)) hC hcw6 0 rfl rfl 24 (by decide) w3 (fun _ h => h) rfl dX6_keep_33 ?_
        refine g_bipush (v := nI 20) hC dX6_keep_36 (by decide +kernel) ?_
        refine g_iload_n hC 1 dX6_keep_38 rfl rfl ?_
        refine g_imul_n (a := 20) (b := k) hC dX6_keep_39 ?_
        refine g_iload_n hC 2 dX6_keep_40 rfl rfl ?_
        refine g_iadd_n (a := (20 * k)) (b := i) hC dX6_keep_41 ?_
        refine g_aload_n hC 0 dX6_keep_42 rfl rfl ?_
        refine g_get (C := RX6) (T := TX6) (N := 38) (ci := 6) (v := .ref (rm 10)) hC hcw6 0 rfl rfl 20 (by decide) w4 (fun _ h => h) rfl dX6_keep_43 ?_
        refine g_iload_n hC 2 dX6_keep_46 rfl rfl ?_
        refine g_iald hC 1 rfl i rfl (by omega) (by decide) dX6_keep_47 ?_
        refine g_iast hC 2 rfl (20 * k + i) rfl (by omega) (by decide) [(mo, o6 rm (nI tl) pl (nI np) (nI nq) (nI nd) rt rp rq rd (nI cnt) (nI na) sd rw rx tm tf sm sf), (rm 10, .inl (cI, 20, .inl (mp c))), (rm 13, .inl (cI, 40, .inl (upd kk (20 * k + i) ((mp c) i)))), (rm 14, .inl (cZ, 2, .inl (upd ik k (nI 1))))] rfl dX6_keep_48 ?_
        refine g_iinc (v := nI (i + 1)) (lv' := [(0, .ref mo), (1, .int (nI k)), (2, .int (nI (i + 1)))]) hC 2 [1, 2, 0] dX6_keep_49 rfl (nI_add _ 1) (by decide) rfl ?_
        refine g_goto hC 26 dX6_keep_52 (by decide) ?_
        refine ih26 (i + 1) (upd kk (20 * k + i) ((mp c) i)) ?_ ?_ ?_
        · omega
        · rw [hkk]; rfl
        · omega
    refine L26 _ 0 mk ?_ ?_ (Nat.lt_succ_self _)
    · omega
    · rfl
  refine g_iconst (v := (-1)) hC dX6_keep_15 rfl ?_
  subst hQ
  refine g_iret (v := -1) hC (mk, ik) hr ?_ rfl dX6_keep_16
  rw [if_neg (fun q => h12f (okS_C.mp q))]

abbrev rm_X6_again : Room := { frames := 1, cells := 0, slots := 0, locals := 25 }
set_option maxRecDepth 100000 in
set_option maxHeartbeats 4000000 in
theorem c_X6_again (l : Launch) (D : va_G) (cI cZ : ClassId) (mo : Nat) (rm : Nat → Nat) (tl : Nat) (pl : Int32) (np : Nat) (nq : Nat) (nd : Nat) (rt : Int32) (rp : Int32) (rq : Int32) (rd : Int32) (cnt : Nat) (na : Nat) (sd : Int64) (rw : Int32) (rx : Int32) (tm : Int32) (tf : Int32) (sm : Int32) (sf : Int32) (c : Nat → Int32) (mk : Nat → Int32) (ik : Nat → Int32) (kf : Nat → Int32) (a : Int32) (hK : ∀ k j, k < 2 → j < 20 → ¬ ik k = nI 0 → mk (20 * k + j) = mp (loadF kf k) j) : CtI l yX6_again wsX6_again rm_X6_again D cI cZ [.ref mo, .int a] [(mo, o6 rm (nI tl) pl (nI np) (nI nq) (nI nd) rt rp rq rd (nI cnt) (nI na) sd rw rx tm tf sm sf), (rm 10, .inl (cI, 20, .inl (mp c))), (rm 13, .inl (cI, 40, .inl mk)), (rm 14, .inl (cZ, 2, .inl ik))] (fun (r : Int32) (z : (Nat → Int32) × Nat) => match z with | (c2, cnt2) => (r, c2, cnt2) = if okS a then (if ik (K a) = nI 0 then ((-3), c, cnt) else (loadF kf (K a) 1, loadF kf (K a), 0)) else ((-1), c, cnt)) (fun (z : (Nat → Int32) × Nat) => match z with | (c2, cnt2) => [(mo, o6 rm (nI tl) pl (nI np) (nI nq) (nI nd) rt rp rq rd (nI cnt2) (nI na) sd rw rx tm tf sm sf), (rm 10, .inl (cI, 20, .inl (mp c2))), (rm 13, .inl (cI, 40, .inl mk)), (rm 14, .inl (cZ, 2, .inl ik))]) 0 0 := by
  refine g_startI (ret := (some .int)) (own := RX6) (lv0 := [(0, .ref mo), (1, .int a)]) (by decide) rfl rfl (Nat.le_of_ble_eq_true rfl) rfl ?_
  intro p e s m args below meth cd A Q hin hr hQ hC
  have hcw6 : ∀ w ∈ wsX60, w ∈ wsX6_again := fun _ h => List.mem_cons_of_mem _ (List.mem_append_right _ h)
  have w1 := hC.1.2.2.2.2 (.fieldLink "PluckBrokerModel" 68 "PluckBrokerModel" "thrown" "I") (List.mem_of_getElem? (i := 1) rfl)
  have w2 := hC.1.2.2.2.2 (.fieldLink "PluckBrokerModel" 52 "PluckBrokerModel" "isKept" "[Z") (List.mem_of_getElem? (i := 2) rfl)
  have w3 := hC.1.2.2.2.2 (.fieldLink "PluckBrokerModel" 40 "PluckBrokerModel" "page" "[I") (List.mem_of_getElem? (i := 3) rfl)
  have w4 := hC.1.2.2.2.2 (.fieldLink "PluckBrokerModel" 49 "PluckBrokerModel" "kept" "[I") (List.mem_of_getElem? (i := 4) rfl)
  have w5 := hC.1.2.2.2.2 (.fieldLink "PluckBrokerModel" 126 "PluckBrokerModel" "acts" "I") (List.mem_of_getElem? (i := 5) rfl)
  refine g_aload_n hC 0 dX6_again_0 rfl rfl ?_
  refine g_iconst (v := nI 0) hC dX6_again_1 rfl ?_
  refine g_put (C := RX6) (T := TX6) (N := 38) (ci := 6) (v := .int (nI 0)) hC hcw6 tyX6 tyX6_ok nmX6 0 rfl rfl 0 (by decide) w1 (fun _ h => h) rfl (tyX6_ok 0 (by decide)) rfl rfl (Nat.le_of_ble_eq_true rfl) [(mo, o6 rm (nI tl) pl (nI np) (nI nq) (nI nd) rt rp rq rd (nI cnt) (nI na) sd rw rx tm tf sm sf), (rm 10, .inl (cI, 20, .inl (mp c))), (rm 13, .inl (cI, 40, .inl mk)), (rm 14, .inl (cZ, 2, .inl ik))] rfl dX6_again_2 ?_
  refine g_iload_n hC 1 dX6_again_5 rfl rfl ?_
  refine g_i2l hC dX6_again_6 rfl ?_
  refine g_lconst (v := (nI 0).toInt64) hC dX6_again_7 (by decide +kernel) ?_
  refine g_lconst (v := (nI 1).toInt64) hC dX6_again_8 (by decide +kernel) ?_
  refine g_callSip (As := [.long a.toInt64, .long ((nI 0).toInt64), .long ((nI 1).toInt64)]) (rest := []) hC (bI ((nI 0) ≤ a ∧ a ≤ (nI 1))) (c_X6_in l D cI cZ a (nI 0) (nI 1)) (va_cwS 3 hC.1.2.2.2.2 gX6_again_X6_in rfl rfl rfl dS_X6_in ⟨Nat.le_of_ble_eq_true rfl, Nat.le_of_ble_eq_true rfl⟩) rfl rfl (Nat.le_of_ble_eq_true rfl) dX6_again_9 ⟨Nat.le_of_ble_eq_true rfl, Nat.le_of_ble_eq_true rfl⟩ [] rfl rfl ?_
  refine g_if_ne_b hC 17 dX6_again_12 (by decide) (fun h12t => ?_) (fun h12f => ?_)
  · obtain ⟨k, hk, rfl⟩ := ok_n (M := 1) (by decide) h12t
    have oks : okS (nI k) := inR_k (n := 2) (by decide) (by omega)
    have hKk : K (nI k) = k := K_n (by omega)
    refine g_aload_n hC 0 dX6_again_17 rfl rfl ?_
    refine g_get (C := RX6) (T := TX6) (N := 38) (ci := 6) (v := .ref (rm 14)) hC hcw6 0 rfl rfl 25 (by decide) w2 (fun _ h => h) rfl dX6_again_18 ?_
    refine g_iload_n hC 1 dX6_again_21 rfl rfl ?_
    refine g_zald hC 3 rfl k rfl (by omega) (by decide) dX6_again_22 ?_
    refine g_if_ne hC 29 dX6_again_23 (by decide) (fun h23t => ?_) (fun h23f => ?_)
    · refine g_iconst (v := nI 0) hC dX6_again_29 rfl ?_
      refine g_istore_n (lv' := [(0, .ref mo), (1, .int (nI k)), (2, .int (nI 0))]) hC [1, 2, 0] dX6_again_30 rfl (by decide) rfl ?_
      have L31 : ∀ (n : Nat) (i : Nat) (pp : Nat → Int32), (i ≤ 20) → (pp = wrG (mp c) 0 (fun k_ => mk (20 * k + k_)) i) → 20 - i < n → G p l e rm_X6_again s m args below meth cd D A 0 0 Q 3 [(mo, o6 rm (nI tl) pl (nI np) (nI nq) (nI nd) rt rp rq rd (nI cnt) (nI na) sd rw rx tm tf sm sf), (rm 10, .inl (cI, 20, .inl pp)), (rm 13, .inl (cI, 40, .inl mk)), (rm 14, .inl (cZ, 2, .inl ik))] 31 [(0, .ref mo), (1, .int (nI k)), (2, .int (nI i))] [] := by
        intro n
        induction n with
        | zero => intro i pp hi hpp hn; exact absurd hn (Nat.not_lt_zero _)
        | succ n ih31 =>
          intro i pp hi hpp hn
          refine g_iload_n hC 2 dX6_again_31 rfl rfl ?_
          refine g_bipush (v := nI 20) hC dX6_again_32 (by decide +kernel) ?_
          refine g_icmp_ge_n (a := i) (b := 20) hC (by omega) (by omega) 60 dX6_again_34 (by decide) (fun h34t => ?_) (fun h34f => ?_)
          · have ei : i = 20 := by omega
            rw [ei] at hpp
            refine g_arr (f2 := (mp (loadF kf k))) 1 rfl (fun j hj => by rw [hpp, wrG_at, if_pos (by omega), Nat.sub_zero]; exact hK k j (by omega) hj h23t) [(mo, o6 rm (nI tl) pl (nI np) (nI nq) (nI nd) rt rp rq rd (nI cnt) (nI na) sd rw rx tm tf sm sf), (rm 10, .inl (cI, 20, .inl (mp (loadF kf k)))), (rm 13, .inl (cI, 40, .inl mk)), (rm 14, .inl (cZ, 2, .inl ik))] rfl ?_
            refine g_aload_n hC 0 dX6_again_60 rfl rfl ?_
            refine g_iconst (v := nI 0) hC dX6_again_61 rfl ?_
            refine g_put (C := RX6) (T := TX6) (N := 38) (ci := 6) (v := .int (nI 0)) hC hcw6 tyX6 tyX6_ok nmX6 0 rfl rfl 23 (by decide) w5 (fun _ h => h) rfl (tyX6_ok 23 (by decide)) rfl rfl (Nat.le_of_ble_eq_true rfl) [(mo, o6 rm (nI tl) pl (nI np) (nI nq) (nI nd) rt rp rq rd (nI 0) (nI na) sd rw rx tm tf sm sf), (rm 10, .inl (cI, 20, .inl (mp (loadF kf k)))), (rm 13, .inl (cI, 40, .inl mk)), (rm 14, .inl (cZ, 2, .inl ik))] rfl dX6_again_62 ?_
            refine g_aload_n hC 0 dX6_again_65 rfl rfl ?_
            refine g_get (C := RX6) (T := TX6) (N := 38) (ci := 6) (v := .ref (rm 10)) hC hcw6 0 rfl rfl 20 (by decide) w3 (fun _ h => h) rfl dX6_again_66 ?_
            refine g_bipush (v := nI 19) hC dX6_again_69 (by decide +kernel) ?_
            refine g_iald hC 1 rfl 19 rfl (by omega) (by decide) dX6_again_71 ?_
            refine g_top (y := (loadF kf k) 1) (mp_19 _) ?_
            subst hQ
            refine g_iret (v := (loadF kf k) 1) hC (loadF kf k, 0) hr ?_ rfl dX6_again_72
            rw [if_pos oks, hKk, if_neg h23t]
          refine g_aload_n hC 0 dX6_again_37 rfl rfl ?_
          refine g_get (C := RX6) (T := TX6) (N := 38) (ci := 6) (v := .ref (rm 10)) hC hcw6 0 rfl rfl 20 (by decide) w3 (fun _ h => h) rfl dX6_again_38 ?_
          refine g_iload_n hC 2 dX6_again_41 rfl rfl ?_
          refine g_aload_n hC 0 dX6_again_42 rfl rfl ?_
          refine g_get (C := RX6) (T := TX6) (N := 38) (ci := 6) (v := .ref (rm 13)) hC hcw6 0 rfl rfl 24 (by decide) w4 (fun _ h => h) rfl dX6_again_43 ?_
          refine g_bipush (v := nI 20) hC dX6_again_46 (by decide +kernel) ?_
          refine g_iload_n hC 1 dX6_again_48 rfl rfl ?_
          refine g_imul_n (a := 20) (b := k) hC dX6_again_49 ?_
          refine g_iload_n hC 2 dX6_again_50 rfl rfl ?_
          refine g_iadd_n (a := (20 * k)) (b := i) hC dX6_again_51 ?_
          refine g_iald hC 2 rfl (20 * k + i) rfl (by omega) (by decide) dX6_again_52 ?_
          refine g_iast hC 1 rfl i rfl (by omega) (by decide) [(mo, o6 rm (nI tl) pl (nI np) (nI nq) (nI nd) rt rp rq rd (nI cnt) (nI na) sd rw rx tm tf sm sf), (rm 10, .inl (cI, 20, .inl (upd pp i (mk (20 * k + i))))), (rm 13, .inl (cI, 40, .inl mk)), (rm 14, .inl (cZ, 2, .inl ik))] rfl dX6_again_53 ?_
          refine g_iinc (v := nI (i + 1)) (lv' := [(0, .ref mo), (1, .int (nI k)), (2, .int (nI (i + 1)))]) hC 2 [1, 2, 0] dX6_again_54 rfl (nI_add _ 1) (by decide) rfl ?_
          refine g_goto hC 31 dX6_again_57 (by decide) ?_
          refine ih31 (i + 1) (upd pp i (mk (20 * k + i))) ?_ ?_ ?_
          · omega
          · show upd pp i (mk (20 * k + i)) = upd (wrG (mp c) 0 (fun k_ => mk (20 * k + k_)) i) (0 + i) (mk (20 * k + i))
            rw [Nat.zero_add, hpp]
          · omega
      refine L31 _ 0 (mp c) ?_ ?_ (Nat.lt_succ_self _)
      · omega
      · rfl
    refine g_bipush (v := (-3)) hC dX6_again_26 (by decide +kernel) ?_
    subst hQ
    refine g_iret (v := -3) hC (c, cnt) hr ?_ rfl dX6_again_28
    rw [if_pos oks, hKk, if_pos h23f]
  refine g_iconst (v := (-1)) hC dX6_again_15 rfl ?_
  subst hQ
  refine g_iret (v := -1) hC (c, cnt) hr ?_ rfl dX6_again_16
  rw [if_neg (fun q => h12f (okS_C.mp q))]
