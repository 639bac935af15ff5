abbrev rm_X6_worthOf : Room := { frames := 1, cells := 0, slots := 0, locals := 21 }
set_option maxRecDepth 100000 in
set_option maxHeartbeats 4000000 in
theorem c_X6_worthOf (l : Launch) (D : va_G) (cI cZ : ClassId) (mo : Nat) (rm : Nat → Nat) (tl : Nat) (pl : Int32) (np : Nat) (nq : Nat) (nd : Nat) (rt : Int32) (rp : Int32) (rq : Int32) (rd : Int32) (cnt : Nat) (na : Nat) (sd : Int64) (rw : Int32) (rx : Int32) (tm : Int32) (tf : Int32) (sm : Int32) (sf : Int32) (P : Nat → Nat → Nat) (z : Nat) (hW : WFP np nq nd P) (hz : z < 32) : CtI l yX6_worthOf wsX6_worthOf rm_X6_worthOf D cI cZ [.ref mo, .int (nI z)] [(mo, o6 rm (nI tl) pl (nI np) (nI nq) (nI nd) rt rp rq rd (nI cnt) (nI na) sd rw rx tm tf sm sf), (rm 2, .inl (cI, 5, .inl (fun k_ => nI (P 1 k_))))] (fun r (_ : Unit) => r = nI (sumW P z nq)) (fun (_ : Unit) => [(mo, o6 rm (nI tl) pl (nI np) (nI nq) (nI nd) rt rp rq rd (nI cnt) (nI na) sd rw rx tm tf sm sf), (rm 2, .inl (cI, 5, .inl (fun k_ => nI (P 1 k_))))]) 0 0 := by
  refine g_startI (ret := (some .int)) (own := RX6) (lv0 := [(0, .ref mo), (1, .int (nI z))]) (by decide) rfl rfl (Nat.le_of_ble_eq_true rfl) rfl ?_
  intro p e s m args below meth cd A Q hin hr hQ hC
  have hcw6 : ∀ w ∈ wsX60, w ∈ wsX6_worthOf := fun _ h => List.mem_cons_of_mem _ (List.mem_append_right _ h)
  have w1 := hC.1.2.2.2.2 (.fieldLink "PluckBrokerModel" 79 "PluckBrokerModel" "qualities" "I") (List.mem_of_getElem? (i := 1) rfl)
  have w2 := hC.1.2.2.2.2 (.fieldLink "PluckBrokerModel" 16 "PluckBrokerModel" "worth" "[I") (List.mem_of_getElem? (i := 2) rfl)
  obtain ⟨⟨hnp, hnq, hnd⟩, hq4, hd5⟩ := id hW
  refine g_iconst (v := nI 0) hC dX6_worthOf_0 rfl ?_
  refine g_istore_n (lv' := [(0, .ref mo), (1, .int (nI z)), (2, .int (nI 0))]) hC [1, 2, 0] dX6_worthOf_1 rfl (by decide) rfl ?_
  refine g_iconst (v := nI 0) hC dX6_worthOf_2 rfl ?_
  refine g_istore_n (lv' := [(0, .ref mo), (1, .int (nI z)), (2, .int (nI 0)), (3, .int (nI 0))]) hC [1, 2, 3, 0] dX6_worthOf_3 rfl (by decide) rfl ?_
  have L4 : ∀ (n : Nat) (i : Nat) (acc : Nat), (i ≤ nq) → (acc = sumW P z i) → nq - i < n → G p l e rm_X6_worthOf s m args below meth cd D A 0 0 Q 4 [(mo, o6 rm (nI tl) pl (nI np) (nI nq) (nI nd) rt rp rq rd (nI cnt) (nI na) sd rw rx tm tf sm sf), (rm 2, .inl (cI, 5, .inl (fun k_ => nI (P 1 k_))))] 4 [(0, .ref mo), (1, .int (nI z)), (2, .int (nI acc)), (3, .int (nI i))] [] := by
    intro n
    induction n with
    | zero => intro i acc hi hacc hn; exact absurd hn (Nat.not_lt_zero _)
    | succ n ih4 =>
      intro i acc hi hacc hn
      refine g_iload_n hC 3 dX6_worthOf_4 rfl rfl ?_
      refine g_aload_n hC 0 dX6_worthOf_5 rfl rfl ?_
      refine g_get (C := RX6) (T := TX6) (N := 38) (ci := 6) (v := .int (nI nq)) hC hcw6 0 rfl rfl 5 (by decide) w1 (fun _ h => h) rfl dX6_worthOf_6 ?_
      refine g_icmp_ge_n (a := i) (b := nq) hC (by omega) (by omega) 39 dX6_worthOf_9 (by decide) (fun h9t => ?_) (fun h9f => ?_)
      · refine g_iload_n hC 2 dX6_worthOf_39 rfl rfl ?_
        subst hQ
        refine g_iret (v := nI acc) hC () hr ?_ rfl dX6_worthOf_40
        have ei : i = nq := by omega
        rw [ei] at hacc; rw [hacc]
      refine g_iload_n hC 2 dX6_worthOf_12 rfl rfl ?_
      refine g_iload_n hC 1 dX6_worthOf_13 rfl rfl ?_
      refine g_iload_n hC 3 dX6_worthOf_14 rfl rfl ?_
      refine g_callSip (As := [.int (nI z), .int (nI i)]) (rest := [.int (nI acc)]) hC (bI (hasB z i)) (c_X6_has l D cI cZ z i (by first | assumption | omega) (by first | assumption | omega)) (va_cwS 2 hC.1.2.2.2.2 gX6_worthOf_X6_has rfl rfl rfl dS_X6_has ⟨Nat.le_of_ble_eq_true rfl, Nat.le_of_ble_eq_true rfl⟩) rfl rfl (Nat.le_of_ble_eq_true rfl) dX6_worthOf_15 ⟨Nat.le_of_ble_eq_true rfl, Nat.le_of_ble_eq_true rfl⟩ [] rfl rfl ?_
      refine g_if_eq_b hC 30 dX6_worthOf_18 (by decide) (fun h18t => ?_) (fun h18f => ?_)
      · refine g_iconst (v := nI 0) hC dX6_worthOf_30 rfl ?_
        refine g_iadd_n (a := acc) (b := 0) hC dX6_worthOf_31 ?_
        refine g_istore_n (lv' := [(0, .ref mo), (1, .int (nI z)), (2, .int (nI (acc + 0))), (3, .int (nI i))]) hC [1, 2, 0, 3] dX6_worthOf_32 rfl (by decide) rfl ?_
        refine g_iinc (v := nI (i + 1)) (lv' := [(0, .ref mo), (1, .int (nI z)), (2, .int (nI (acc + 0))), (3, .int (nI (i + 1)))]) hC 3 [1, 2, 3, 0] dX6_worthOf_33 rfl (nI_add _ 1) (by decide) rfl ?_
        refine g_goto hC 4 dX6_worthOf_36 (by decide) ?_
        refine ih4 (i + 1) (acc + 0) ?_ ?_ ?_
        · omega
        · show _ = sumW P z i + (if hasB z i then P 1 i else 0)
          rw [hacc, if_neg h18t]
        · omega
      refine g_aload_n hC 0 dX6_worthOf_21 rfl rfl ?_
      refine g_get (C := RX6) (T := TX6) (N := 38) (ci := 6) (v := .ref (rm 2)) hC hcw6 0 rfl rfl 7 (by decide) w2 (fun _ h => h) rfl dX6_worthOf_22 ?_
      refine g_iload_n hC 3 dX6_worthOf_25 rfl rfl ?_
      refine g_iald hC 1 rfl i rfl (by omega) (by decide) dX6_worthOf_26 ?_
      refine g_goto hC 31 dX6_worthOf_27 (by decide) ?_
      refine g_iadd_n (a := acc) (b := (P 1 i)) hC dX6_worthOf_31 ?_
      refine g_istore_n (lv' := [(0, .ref mo), (1, .int (nI z)), (2, .int (nI (acc + (P 1 i)))), (3, .int (nI i))]) hC [1, 2, 0, 3] dX6_worthOf_32 rfl (by decide) rfl ?_
      refine g_iinc (v := nI (i + 1)) (lv' := [(0, .ref mo), (1, .int (nI z)), (2, .int (nI (acc + (P 1 i)))), (3, .int (nI (i + 1)))]) hC 3 [1, 2, 3, 0] dX6_worthOf_33 rfl (nI_add _ 1) (by decide) rfl ?_
      refine g_goto hC 4 dX6_worthOf_36 (by decide) ?_
      refine ih4 (i + 1) (acc + (P 1 i)) ?_ ?_ ?_
      · omega
      · show _ = sumW P z i + (if hasB z i then P 1 i else 0)
        rw [hacc, if_pos h18f]
      · omega
  refine L4 _ 0 0 ?_ ?_ (Nat.lt_succ_self _)
  · omega
  · rfl

abbrev rm_X6_doneBy : Room := { frames := 2, cells := 0, slots := 0, locals := 46 }
set_option maxRecDepth 100000 in
set_option maxHeartbeats 4000000 in
theorem c_X6_doneBy (l : Launch) (D : va_G) (cI cZ : ClassId) (mo : Nat) (rm : Nat → Nat) (tl : Nat) (pl : Int32) (np : Nat) (nq : Nat) (nd : Nat) (rt : Int32) (rp : Int32) (rq : Int32) (rd : Int32) (cnt : Nat) (na : Nat) (sd : Int64) (rw : Int32) (rx : Int32) (tm : Int32) (tf : Int32) (sm : Int32) (sf : Int32) (P : Nat → Nat → Nat) (c : Nat → Int32) (g : Nat → Int32) (t : Nat) (k : Nat) (z : Nat) (hW : WFP np nq nd P) (hFr : Fr P nd c t) (ht : t ≤ 200) (hk : k < np) (hz : z < 32) : CtI l yX6_doneBy wsX6_doneBy rm_X6_doneBy D cI cZ [.ref mo, .int (nI k), .int (nI z)] [(mo, o6 rm (nI tl) pl (nI np) (nI nq) (nI nd) rt rp rq rd (nI cnt) (nI na) sd rw rx tm tf sm sf), (rm 1, .inl (cI, 5, .inl (fun k_ => nI (P 0 k_)))), (rm 2, .inl (cI, 5, .inl (fun k_ => nI (P 1 k_)))), (rm 3, .inl (cI, 5, .inl (fun k_ => nI (P 2 k_)))), (rm 4, .inl (cI, 5, .inl (fun k_ => nI (P 3 k_)))), (rm 5, .inl (cI, 5, .inl (fun k_ => nI (P 4 k_)))), (rm 6, .inl (cI, 5, .inl (fun k_ => nI (P 5 k_)))), (rm 10, .inl (cI, 20, .inl (mp c))), (rm 11, .inl (cI, 20, .inl (mp g)))] (fun (r : Int32) (g2 : (Nat → Int32)) => r = nI (pop5 (deedsThat nd (passN P nq nd (plG P z c nq) 20) (nI 1) &&& deedsB nd P (nI k)))) (fun (g2 : (Nat → Int32)) => [(mo, o6 rm (nI tl) pl (nI np) (nI nq) (nI nd) rt rp rq rd (nI cnt) (nI na) sd rw rx tm tf sm sf), (rm 1, .inl (cI, 5, .inl (fun k_ => nI (P 0 k_)))), (rm 2, .inl (cI, 5, .inl (fun k_ => nI (P 1 k_)))), (rm 3, .inl (cI, 5, .inl (fun k_ => nI (P 2 k_)))), (rm 4, .inl (cI, 5, .inl (fun k_ => nI (P 3 k_)))), (rm 5, .inl (cI, 5, .inl (fun k_ => nI (P 4 k_)))), (rm 6, .inl (cI, 5, .inl (fun k_ => nI (P 5 k_)))), (rm 10, .inl (cI, 20, .inl (mp c))), (rm 11, .inl (cI, 20, .inl (mp g2)))]) 0 0 := by
  refine g_startI (ret := (some .int)) (own := RX6) (lv0 := [(0, .ref mo), (1, .int (nI k)), (2, .int (nI z))]) (by decide) rfl rfl (Nat.le_of_ble_eq_true rfl) rfl ?_
  intro p e s m args below meth cd A Q hin hr hQ hC
  have hcw6 : ∀ w ∈ wsX60, w ∈ wsX6_doneBy := fun _ h => List.mem_cons_of_mem _ (List.mem_append_right _ h)
  have w1 := hC.1.2.2.2.2 (.fieldLink "PluckBrokerModel" 79 "PluckBrokerModel" "qualities" "I") (List.mem_of_getElem? (i := 1) rfl)
  have w2 := hC.1.2.2.2.2 (.fieldLink "PluckBrokerModel" 43 "PluckBrokerModel" "trial" "[I") (List.mem_of_getElem? (i := 2) rfl)
  obtain ⟨⟨hnp, hnq, hnd⟩, hq4, hd5⟩ := id hW
  have hdo : deedsB nd P (nI k) < 32 := bts_le hnd
  refine g_aload_n hC 0 dX6_doneBy_0 rfl rfl ?_
  refine g_callVv (As := []) (rest := []) hC (c_X6_begin l D cI cZ mo rm tl pl np nq nd rt rp rq rd cnt na sd rw rx tm tf sm sf c g) (cwV 0 hC.1.2.2.2.2 gX6_doneBy_X6_begin rfl rfl rfl dV_X6_begin ⟨Nat.le_of_ble_eq_true rfl, Nat.le_of_ble_eq_true rfl⟩) rfl rfl rfl rfl (Nat.le_of_ble_eq_true rfl) dX6_doneBy_1 ⟨Nat.le_of_ble_eq_true rfl, Nat.le_of_ble_eq_true rfl⟩ [0, 7, 8] [1, 2, 3, 4, 5, 6] [6, 0, 1, 2, 3, 4, 5, 7, 8] (fun (_ : Unit) => [(mo, o6 rm (nI tl) pl (nI np) (nI nq) (nI nd) rt rp rq rd (nI cnt) (nI na) sd rw rx tm tf sm sf), (rm 1, .inl (cI, 5, .inl (fun k_ => nI (P 0 k_)))), (rm 2, .inl (cI, 5, .inl (fun k_ => nI (P 1 k_)))), (rm 3, .inl (cI, 5, .inl (fun k_ => nI (P 2 k_)))), (rm 4, .inl (cI, 5, .inl (fun k_ => nI (P 3 k_)))), (rm 5, .inl (cI, 5, .inl (fun k_ => nI (P 4 k_)))), (rm 6, .inl (cI, 5, .inl (fun k_ => nI (P 5 k_)))), (rm 10, .inl (cI, 20, .inl (mp c))), (rm 11, .inl (cI, 20, .inl (mp c)))]) rfl rfl rfl (fun _ => rfl) (fun z1 hp1 => ?_)
  refine g_is (ws2 := [(mo, o6 rm (nI tl) pl (nI np) (nI nq) (nI nd) rt rp rq rd (nI cnt) (nI na) sd rw rx tm tf sm sf), (rm 1, .inl (cI, 5, .inl (fun k_ => nI (P 0 k_)))), (rm 2, .inl (cI, 5, .inl (fun k_ => nI (P 1 k_)))), (rm 3, .inl (cI, 5, .inl (fun k_ => nI (P 2 k_)))), (rm 4, .inl (cI, 5, .inl (fun k_ => nI (P 3 k_)))), (rm 5, .inl (cI, 5, .inl (fun k_ => nI (P 4 k_)))), (rm 6, .inl (cI, 5, .inl (fun k_ => nI (P 5 k_)))), (rm 10, .inl (cI, 20, .inl (mp c))), (rm 11, .inl (cI, 20, .inl (mp c)))]) (lv2 := [(0, .ref mo), (1, .int (nI k)), (2, .int (nI z))]) (st2 := []) rfl rfl rfl ?_
  refine g_iconst (v := nI 0) hC dX6_doneBy_4 rfl ?_
  refine g_istore_n (lv' := [(0, .ref mo), (1, .int (nI k)), (2, .int (nI z)), (3, .int (nI 0))]) hC [1, 2, 3, 0] dX6_doneBy_5 rfl (by decide) rfl ?_
  have L6 : ∀ (n : Nat) (i : Nat) (gg : Nat → Int32), (i ≤ nq) → (gg = plG P z c i) → nq - i < n → G p l e rm_X6_doneBy s m args below meth cd D A 0 0 Q 4 [(mo, o6 rm (nI tl) pl (nI np) (nI nq) (nI nd) rt rp rq rd (nI cnt) (nI na) sd rw rx tm tf sm sf), (rm 1, .inl (cI, 5, .inl (fun k_ => nI (P 0 k_)))), (rm 2, .inl (cI, 5, .inl (fun k_ => nI (P 1 k_)))), (rm 3, .inl (cI, 5, .inl (fun k_ => nI (P 2 k_)))), (rm 4, .inl (cI, 5, .inl (fun k_ => nI (P 3 k_)))), (rm 5, .inl (cI, 5, .inl (fun k_ => nI (P 4 k_)))), (rm 6, .inl (cI, 5, .inl (fun k_ => nI (P 5 k_)))), (rm 10, .inl (cI, 20, .inl (mp c))), (rm 11, .inl (cI, 20, .inl (mp gg)))] 6 [(0, .ref mo), (1, .int (nI k)), (2, .int (nI z)), (3, .int (nI i))] [] := by
    intro n
    induction n with
    | zero => intro i gg hi hg hn; exact absurd hn (Nat.not_lt_zero _)
    | succ n ih6 =>
      intro i gg hi hg hn
      refine g_iload_n hC 3 dX6_doneBy_6 rfl rfl ?_
      refine g_aload_n hC 0 dX6_doneBy_7 rfl rfl ?_
      refine g_get (C := RX6) (T := TX6) (N := 38) (ci := 6) (v := .int (nI nq)) hC hcw6 0 rfl rfl 5 (by decide) w1 (fun _ h => h) rfl dX6_doneBy_8 ?_
      refine g_icmp_ge_n (a := i) (b := nq) hC (by omega) (by omega) 37 dX6_doneBy_11 (by decide) (fun h11t => ?_) (fun h11f => ?_)
      · have ei : i = nq := by omega
        rw [ei] at hg
        refine g_aload_n hC 0 dX6_doneBy_37 rfl rfl ?_
        refine g_bipush (v := nI 20) hC dX6_doneBy_38 (by decide +kernel) ?_
        refine g_callVv (As := [.int (nI 20)]) (rest := []) hC (c_X6_goDays l D cI cZ mo rm tl pl np nq nd rt rp rq rd cnt na sd rw rx tm tf sm sf P gg t 20 (by first | assumption | omega) (by rw [hg]; exact Fr_plG hW hFr nq (Nat.le_refl _)) (by first | assumption | omega) (by first | assumption | omega)) (cwV 1 hC.1.2.2.2.2 gX6_doneBy_X6_goDays rfl rfl rfl dV_X6_goDays ⟨Nat.le_of_ble_eq_true rfl, Nat.le_of_ble_eq_true rfl⟩) rfl rfl rfl rfl (Nat.le_of_ble_eq_true rfl) dX6_doneBy_40 ⟨Nat.le_of_ble_eq_true rfl, Nat.le_of_ble_eq_true rfl⟩ [0, 1, 3, 4, 5, 6, 8] [2, 7] [2, 3, 0, 4, 5, 6, 7, 1, 8] (fun (_ : Unit) => [(mo, o6 rm (nI tl) pl (nI np) (nI nq) (nI nd) rt rp rq rd (nI cnt) (nI na) sd rw rx tm tf sm sf), (rm 1, .inl (cI, 5, .inl (fun k_ => nI (P 0 k_)))), (rm 2, .inl (cI, 5, .inl (fun k_ => nI (P 1 k_)))), (rm 3, .inl (cI, 5, .inl (fun k_ => nI (P 2 k_)))), (rm 4, .inl (cI, 5, .inl (fun k_ => nI (P 3 k_)))), (rm 5, .inl (cI, 5, .inl (fun k_ => nI (P 4 k_)))), (rm 6, .inl (cI, 5, .inl (fun k_ => nI (P 5 k_)))), (rm 10, .inl (cI, 20, .inl (mp c))), (rm 11, .inl (cI, 20, .inl (mp (passN P nq nd gg 20))))]) rfl rfl rfl (fun _ => rfl) (fun z40 hp40 => ?_)
        refine g_is (ws2 := [(mo, o6 rm (nI tl) pl (nI np) (nI nq) (nI nd) rt rp rq rd (nI cnt) (nI na) sd rw rx tm tf sm sf), (rm 1, .inl (cI, 5, .inl (fun k_ => nI (P 0 k_)))), (rm 2, .inl (cI, 5, .inl (fun k_ => nI (P 1 k_)))), (rm 3, .inl (cI, 5, .inl (fun k_ => nI (P 2 k_)))), (rm 4, .inl (cI, 5, .inl (fun k_ => nI (P 3 k_)))), (rm 5, .inl (cI, 5, .inl (fun k_ => nI (P 4 k_)))), (rm 6, .inl (cI, 5, .inl (fun k_ => nI (P 5 k_)))), (rm 10, .inl (cI, 20, .inl (mp c))), (rm 11, .inl (cI, 20, .inl (mp (passN P nq nd gg 20))))]) (lv2 := [(0, .ref mo), (1, .int (nI k)), (2, .int (nI z)), (3, .int (nI i))]) (st2 := []) rfl rfl rfl ?_
        refine g_aload_n hC 0 dX6_doneBy_43 rfl rfl ?_
        refine g_aload_n hC 0 dX6_doneBy_44 rfl rfl ?_
        refine g_get (C := RX6) (T := TX6) (N := 38) (ci := 6) (v := .ref (rm 11)) hC hcw6 0 rfl rfl 21 (by decide) w2 (fun _ h => h) rfl dX6_doneBy_45 ?_
        refine g_iconst (v := nI 1) hC dX6_doneBy_48 rfl ?_
        refine g_callVip (As := [.ref (rm 11), .int (nI 1)]) (rest := []) hC (nI (deedsThat nd (passN P nq nd gg 20) (nI 1))) (c_X6_deedsThat l D cI cZ mo rm tl pl np nq nd rt rp rq rd cnt na sd rw rx tm tf sm sf (rm 11) (passN P nq nd gg 20) (nI 1) (by omega)) (cwV 2 hC.1.2.2.2.2 gX6_doneBy_X6_deedsThat rfl rfl rfl dV_X6_deedsThat ⟨Nat.le_of_ble_eq_true rfl, Nat.le_of_ble_eq_true rfl⟩) rfl rfl rfl rfl (Nat.le_of_ble_eq_true rfl) dX6_doneBy_49 ⟨Nat.le_of_ble_eq_true rfl, Nat.le_of_ble_eq_true rfl⟩ [0, 8] rfl rfl ?_
        refine g_aload_n hC 0 dX6_doneBy_52 rfl rfl ?_
        refine g_iload_n hC 1 dX6_doneBy_53 rfl rfl ?_
        refine g_callVip (As := [.int (nI k)]) (rest := [.int (nI (deedsThat nd (passN P nq nd gg 20) (nI 1)))]) hC (nI (deedsB nd P (nI k))) (c_X6_deedsOf l D cI cZ mo rm tl pl np nq nd rt rp rq rd cnt na sd rw rx tm tf sm sf P (nI k) (by first | assumption | omega)) (cwV 1 hC.1.2.2.2.2 gX6_doneBy_X6_deedsOf rfl rfl rfl dV_X6_deedsOf ⟨Nat.le_of_ble_eq_true rfl, Nat.le_of_ble_eq_true rfl⟩) rfl rfl rfl rfl (Nat.le_of_ble_eq_true rfl) dX6_doneBy_54 ⟨Nat.le_of_ble_eq_true rfl, Nat.le_of_ble_eq_true rfl⟩ [0, 1, 4] rfl rfl ?_
        refine g_iand_n (a := (deedsThat nd (passN P nq nd gg 20) (nI 1))) (b := (deedsB nd P (nI k))) hC dX6_doneBy_57 ?_
        have hpp : deedsThat nd (passN P nq nd gg 20) (nI 1) &&& deedsB nd P (nI k) < 32 := Nat.lt_of_le_of_lt Nat.and_le_right hdo
        refine g_callSip (As := [.int (nI ((deedsThat nd (passN P nq nd gg 20) (nI 1)) &&& (deedsB nd P (nI k))))]) (rest := []) hC (nI (pop5 ((deedsThat nd (passN P nq nd gg 20) (nI 1)) &&& (deedsB nd P (nI k))))) (c_X6_many l D cI cZ ((deedsThat nd (passN P nq nd gg 20) (nI 1)) &&& (deedsB nd P (nI k))) (by first | assumption | omega)) (va_cwS 1 hC.1.2.2.2.2 gX6_doneBy_X6_many rfl rfl rfl dS_X6_many ⟨Nat.le_of_ble_eq_true rfl, Nat.le_of_ble_eq_true rfl⟩) rfl rfl (Nat.le_of_ble_eq_true rfl) dX6_doneBy_58 ⟨Nat.le_of_ble_eq_true rfl, Nat.le_of_ble_eq_true rfl⟩ [] rfl rfl ?_
        subst hQ
        refine g_iret (v := nI (pop5 ((deedsThat nd (passN P nq nd gg 20) (nI 1)) &&& (deedsB nd P (nI k))))) hC (passN P nq nd gg 20) hr ?_ rfl dX6_doneBy_61
        rw [hg]
      refine g_iload_n hC 2 dX6_doneBy_14 rfl rfl ?_
      refine g_iload_n hC 3 dX6_doneBy_15 rfl rfl ?_
      refine g_callSip (As := [.int (nI z), .int (nI i)]) (rest := []) hC (bI (hasB z i)) (c_X6_has l D cI cZ z i (by first | assumption | omega) (by first | assumption | omega)) (va_cwS 2 hC.1.2.2.2.2 gX6_doneBy_X6_has rfl rfl rfl dS_X6_has ⟨Nat.le_of_ble_eq_true rfl, Nat.le_of_ble_eq_true rfl⟩) rfl rfl (Nat.le_of_ble_eq_true rfl) dX6_doneBy_16 ⟨Nat.le_of_ble_eq_true rfl, Nat.le_of_ble_eq_true rfl⟩ [] rfl rfl ?_
      refine g_if_eq_b hC 31 dX6_doneBy_19 (by decide) (fun h19t => ?_) (fun h19f => ?_)
      · refine g_iinc (v := nI (i + 1)) (lv' := [(0, .ref mo), (1, .int (nI k)), (2, .int (nI z)), (3, .int (nI (i + 1)))]) hC 3 [1, 2, 3, 0] dX6_doneBy_31 rfl (nI_add _ 1) (by decide) rfl ?_
        refine g_goto hC 6 dX6_doneBy_34 (by decide) ?_
        refine ih6 (i + 1) gg ?_ ?_ ?_
        · omega
        · show _ = (if hasB z i then pledgeF P (plG P z c i) i else plG P z c i)
          rw [if_neg h19t]; exact hg
        · omega
      refine g_aload_n hC 0 dX6_doneBy_22 rfl rfl ?_
      refine g_aload_n hC 0 dX6_doneBy_23 rfl rfl ?_
      refine g_get (C := RX6) (T := TX6) (N := 38) (ci := 6) (v := .ref (rm 11)) hC hcw6 0 rfl rfl 21 (by decide) w2 (fun _ h => h) rfl dX6_doneBy_24 ?_
      refine g_iload_n hC 3 dX6_doneBy_27 rfl rfl ?_
      refine g_callVv (As := [.ref (rm 11), .int (nI i)]) (rest := []) hC (c_X6_goPledge l D cI cZ mo rm tl pl np nq nd rt rp rq rd cnt na sd rw rx tm tf sm sf P (rm 11) gg i (by first | assumption | omega) (by first | assumption | omega)) (cwV 2 hC.1.2.2.2.2 gX6_doneBy_X6_goPledge rfl rfl rfl dV_X6_goPledge ⟨Nat.le_of_ble_eq_true rfl, Nat.le_of_ble_eq_true rfl⟩) rfl rfl rfl rfl (Nat.le_of_ble_eq_true rfl) dX6_doneBy_28 ⟨Nat.le_of_ble_eq_true rfl, Nat.le_of_ble_eq_true rfl⟩ [0, 1, 2, 8] [3, 4, 5, 6, 7] [5, 6, 7, 0, 1, 2, 3, 4, 8] (fun (_ : Unit) => [(mo, o6 rm (nI tl) pl (nI np) (nI nq) (nI nd) rt rp rq rd (nI cnt) (nI na) sd rw rx tm tf sm sf), (rm 1, .inl (cI, 5, .inl (fun k_ => nI (P 0 k_)))), (rm 2, .inl (cI, 5, .inl (fun k_ => nI (P 1 k_)))), (rm 3, .inl (cI, 5, .inl (fun k_ => nI (P 2 k_)))), (rm 4, .inl (cI, 5, .inl (fun k_ => nI (P 3 k_)))), (rm 5, .inl (cI, 5, .inl (fun k_ => nI (P 4 k_)))), (rm 6, .inl (cI, 5, .inl (fun k_ => nI (P 5 k_)))), (rm 10, .inl (cI, 20, .inl (mp c))), ((rm 11), .inl (cI, 20, .inl (mp (pledgeF P gg i))))]) rfl rfl rfl (fun _ => rfl) (fun z28 hp28 => ?_)
      refine g_is (ws2 := [(mo, o6 rm (nI tl) pl (nI np) (nI nq) (nI nd) rt rp rq rd (nI cnt) (nI na) sd rw rx tm tf sm sf), (rm 1, .inl (cI, 5, .inl (fun k_ => nI (P 0 k_)))), (rm 2, .inl (cI, 5, .inl (fun k_ => nI (P 1 k_)))), (rm 3, .inl (cI, 5, .inl (fun k_ => nI (P 2 k_)))), (rm 4, .inl (cI, 5, .inl (fun k_ => nI (P 3 k_)))), (rm 5, .inl (cI, 5, .inl (fun k_ => nI (P 4 k_)))), (rm 6, .inl (cI, 5, .inl (fun k_ => nI (P 5 k_)))), (rm 10, .inl (cI, 20, .inl (mp c))), ((rm 11), .inl (cI, 20, .inl (mp (pledgeF P gg i))))]) (lv2 := [(0, .ref mo), (1, .int (nI k)), (2, .int (nI z)), (3, .int (nI i))]) (st2 := []) rfl rfl rfl ?_
      refine g_iinc (v := nI (i + 1)) (lv' := [(0, .ref mo), (1, .int (nI k)), (2, .int (nI z)), (3, .int (nI (i + 1)))]) hC 3 [1, 2, 3, 0] dX6_doneBy_31 rfl (nI_add _ 1) (by decide) rfl ?_
      refine g_goto hC 6 dX6_doneBy_34 (by decide) ?_
      refine ih6 (i + 1) (pledgeF P gg i) ?_ ?_ ?_
      · omega
      · show _ = (if hasB z i then pledgeF P (plG P z c i) i else plG P z c i)
        rw [if_pos h19f, hg]
      · omega
  refine L6 _ 0 c ?_ ?_ (Nat.lt_succ_self _)
  · omega
  · rfl

abbrev rm_X6_raise : Room := { frames := 3, cells := 0, slots := 0, locals := 69 }
set_option maxRecDepth 100000 in
set_option maxHeartbeats 16000000 in
theorem c_X6_raise (l : Launch) (D : va_G) (cI cZ : ClassId) (mo : Nat) (rm : Nat → Nat) (tl : Nat) (pl : Int32) (np : Nat) (nq : Nat) (nd : Nat) (rt : Int32) (rp : Int32) (rq : Int32) (rd : Int32) (cnt : Nat) (na : Nat) (sd : Int64) (rw : Int32) (rx : Int32) (tm : Int32) (tf : Int32) (sm : Int32) (sf : Int32) (P : Nat → Nat → Nat) (c : Nat → Int32) (g : Nat → Int32) (t : Nat) (T : Nat) (a : Int32) (v : Int32) (w : Int32) (hW : WFP np nq nd P) (hFr : Fr P nd c t) (ht : t ≤ 200) (hT : c 0 = nI T) (hT2 : T < 2 ^ 20) : CtI l yX6_raise wsX6_raise rm_X6_raise D cI cZ [.ref mo, .int a, .int v, .int w] [(mo, o6 rm (nI tl) pl (nI np) (nI nq) (nI nd) rt rp rq rd (nI cnt) (nI na) sd rw rx tm tf sm sf), (rm 1, .inl (cI, 5, .inl (fun k_ => nI (P 0 k_)))), (rm 2, .inl (cI, 5, .inl (fun k_ => nI (P 1 k_)))), (rm 3, .inl (cI, 5, .inl (fun k_ => nI (P 2 k_)))), (rm 4, .inl (cI, 5, .inl (fun k_ => nI (P 3 k_)))), (rm 5, .inl (cI, 5, .inl (fun k_ => nI (P 4 k_)))), (rm 6, .inl (cI, 5, .inl (fun k_ => nI (P 5 k_)))), (rm 10, .inl (cI, 20, .inl (mp c))), (rm 11, .inl (cI, 20, .inl (mp g)))] (fun (r : Int32) (z : (Nat → Int32) × Int32 × Int32) => match z with | (g2, rw2, rx2) => r = raiseR np nq nd P c a v w) (fun (z : (Nat → Int32) × Int32 × Int32) => match z with | (g2, rw2, rx2) => [(mo, o6 rm (nI tl) pl (nI np) (nI nq) (nI nd) rt rp rq rd (nI cnt) (nI na) sd rw2 rx2 tm tf sm sf), (rm 1, .inl (cI, 5, .inl (fun k_ => nI (P 0 k_)))), (rm 2, .inl (cI, 5, .inl (fun k_ => nI (P 1 k_)))), (rm 3, .inl (cI, 5, .inl (fun k_ => nI (P 2 k_)))), (rm 4, .inl (cI, 5, .inl (fun k_ => nI (P 3 k_)))), (rm 5, .inl (cI, 5, .inl (fun k_ => nI (P 4 k_)))), (rm 6, .inl (cI, 5, .inl (fun k_ => nI (P 5 k_)))), (rm 10, .inl (cI, 20, .inl (mp c))), (rm 11, .inl (cI, 20, .inl (mp g2)))]) 0 0 := by
  refine g_startI (ret := (some .int)) (own := RX6) (lv0 := [(0, .ref mo), (1, .int a), (2, .int v), (3, .int w)]) (by decide) rfl rfl (Nat.le_of_ble_eq_true rfl) rfl ?_
  intro p e s m args below meth cd A Q hin hr hQ hC
  have hcw6 : ∀ w ∈ wsX60, w ∈ wsX6_raise := fun _ h => List.mem_cons_of_mem _ (List.mem_append_right _ h)
  have w1 := hC.1.2.2.2.2 (.fieldLink "PluckBrokerModel" 68 "PluckBrokerModel" "thrown" "I") (List.mem_of_getElem? (i := 1) rfl)
  have w2 := hC.1.2.2.2.2 (.constantLong "PluckBrokerModel" 202 60) (List.mem_of_getElem? (i := 2) rfl)
  have w3 := hC.1.2.2.2.2 (.fieldLink "PluckBrokerModel" 40 "PluckBrokerModel" "page" "[I") (List.mem_of_getElem? (i := 3) rfl)
  have w4 := hC.1.2.2.2.2 (.fieldLink "PluckBrokerModel" 204 "PluckBrokerModel" "raiseWhich" "I") (List.mem_of_getElem? (i := 4) rfl)
  have w5 := hC.1.2.2.2.2 (.fieldLink "PluckBrokerModel" 207 "PluckBrokerModel" "raiseMany" "I") (List.mem_of_getElem? (i := 5) rfl)
  have w6 := hC.1.2.2.2.2 (.fieldLink "PluckBrokerModel" 79 "PluckBrokerModel" "qualities" "I") (List.mem_of_getElem? (i := 6) rfl)
  obtain ⟨⟨hnp, hnq, hnd⟩, hq4, hd5⟩ := id hW
  obtain ⟨M, hM⟩ : ∃ M, M = 2 ^ nq := ⟨_, rfl⟩
  have hM32 : M ≤ 32 := by rw [hM]; exact pow2_32 hnq
  refine g_aload_n hC 0 dX6_raise_0 rfl rfl ?_
  refine g_iconst (v := nI 0) hC dX6_raise_1 rfl ?_
  refine g_put (C := RX6) (T := TX6) (N := 38) (ci := 6) (v := .int (nI 0)) hC hcw6 tyX6 tyX6_ok nmX6 0 rfl rfl 0 (by decide) w1 (fun _ h => h) rfl (tyX6_ok 0 (by decide)) rfl rfl (Nat.le_of_ble_eq_true rfl) [(mo, o6 rm (nI tl) pl (nI np) (nI nq) (nI nd) rt rp rq rd (nI cnt) (nI na) sd rw rx tm tf sm sf), (rm 1, .inl (cI, 5, .inl (fun k_ => nI (P 0 k_)))), (rm 2, .inl (cI, 5, .inl (fun k_ => nI (P 1 k_)))), (rm 3, .inl (cI, 5, .inl (fun k_ => nI (P 2 k_)))), (rm 4, .inl (cI, 5, .inl (fun k_ => nI (P 3 k_)))), (rm 5, .inl (cI, 5, .inl (fun k_ => nI (P 4 k_)))), (rm 6, .inl (cI, 5, .inl (fun k_ => nI (P 5 k_)))), (rm 10, .inl (cI, 20, .inl (mp c))), (rm 11, .inl (cI, 20, .inl (mp g)))] rfl dX6_raise_2 ?_
  refine g_aload_n hC 0 dX6_raise_5 rfl rfl ?_
  refine g_iload_n hC 1 dX6_raise_6 rfl rfl ?_
  refine g_callVip (As := [.int a]) (rest := []) hC (bI (¬ inR a np)) (c_X6_noPerson l D cI cZ mo rm tl pl np nq nd rt rp rq rd cnt na sd rw rx tm tf sm sf a (by omega)) (cwV 1 hC.1.2.2.2.2 gX6_raise_X6_noPerson rfl rfl rfl dV_X6_noPerson ⟨Nat.le_of_ble_eq_true rfl, Nat.le_of_ble_eq_true rfl⟩) rfl rfl rfl rfl (Nat.le_of_ble_eq_true rfl) dX6_raise_7 ⟨Nat.le_of_ble_eq_true rfl, Nat.le_of_ble_eq_true rfl⟩ [0] rfl rfl ?_
  refine g_if_eq_b hC 15 dX6_raise_10 (by decide) (fun h10t => ?_) (fun h10f => ?_)
  · obtain ⟨k, hk, rfl⟩ := inR_n (by omega) (Decidable.not_not.mp h10t)
    have hin2 := inR_k (n := np) (by omega) hk
    have hKk : K (nI k) = k := K_n (by omega)
    refine g_iload_n hC 2 dX6_raise_15 rfl rfl ?_
    refine g_i2l hC dX6_raise_16 rfl ?_
    refine g_lconst (v := (nI 0).toInt64) hC dX6_raise_17 (by decide +kernel) ?_
    refine g_ldc2 (v := 60) hC w2 dX6_raise_18 ?_
    refine g_topl (y := (nI 60).toInt64) (by decide +kernel) ?_
    refine g_callSip (As := [.long v.toInt64, .long ((nI 0).toInt64), .long ((nI 60).toInt64)]) (rest := []) hC (bI ((nI 0) ≤ v ∧ v ≤ (nI 60))) (c_X6_in l D cI cZ v (nI 0) (nI 60)) (va_cwS 3 hC.1.2.2.2.2 gX6_raise_X6_in rfl rfl rfl dS_X6_in ⟨Nat.le_of_ble_eq_true rfl, Nat.le_of_ble_eq_true rfl⟩) rfl rfl (Nat.le_of_ble_eq_true rfl) dX6_raise_21 ⟨Nat.le_of_ble_eq_true rfl, Nat.le_of_ble_eq_true rfl⟩ [] rfl rfl ?_
    refine g_if_eq_b hC 37 dX6_raise_24 (by decide) (fun h24t => ?_) (fun h24f => ?_)
    · refine g_bipush (v := (-2)) hC dX6_raise_37 (by decide +kernel) ?_
      subst hQ
      refine g_iret (v := -2) hC (g, rw, rx) hr ?_ rfl dX6_raise_39
      rw [raiseR, if_pos hin2, if_neg (fun q => h24t q.1)]
    refine g_iload_n hC 3 dX6_raise_27 rfl rfl ?_
    refine g_i2l hC dX6_raise_28 rfl ?_
    refine g_lconst (v := (nI 0).toInt64) hC dX6_raise_29 (by decide +kernel) ?_
    refine g_lconst (v := (nI 1).toInt64) hC dX6_raise_30 (by decide +kernel) ?_
    refine g_callSip (As := [.long w.toInt64, .long ((nI 0).toInt64), .long ((nI 1).toInt64)]) (rest := []) hC (bI ((nI 0) ≤ w ∧ w ≤ (nI 1))) (c_X6_in l D cI cZ w (nI 0) (nI 1)) (va_cwS 3 hC.1.2.2.2.2 gX6_raise_X6_in rfl rfl rfl dS_X6_in ⟨Nat.le_of_ble_eq_true rfl, Nat.le_of_ble_eq_true rfl⟩) rfl rfl (Nat.le_of_ble_eq_true rfl) dX6_raise_31 ⟨Nat.le_of_ble_eq_true rfl, Nat.le_of_ble_eq_true rfl⟩ [] rfl rfl ?_
    refine g_if_ne_b hC 40 dX6_raise_34 (by decide) (fun h34t => ?_) (fun h34f => ?_)
    · have okw : okC w := h34t
      obtain ⟨wn, hwn, rfl⟩ := ok_n (M := 1) (by decide) okw
      refine g_aload_n hC 0 dX6_raise_40 rfl rfl ?_
      refine g_aload_n hC 0 dX6_raise_41 rfl rfl ?_
      refine g_get (C := RX6) (T := TX6) (N := 38) (ci := 6) (v := .ref (rm 10)) hC hcw6 0 rfl rfl 20 (by decide) w3 (fun _ h => h) rfl dX6_raise_42 ?_
      refine g_iconst (v := nI 0) hC dX6_raise_45 rfl ?_
      refine g_callVip (As := [.ref (rm 10), .int (nI 0)]) (rest := []) hC (nI (thatAre nq c (nI 0))) (c_X6_thatAre l D cI cZ mo rm tl pl np nq nd rt rp rq rd cnt na sd rw rx tm tf sm sf (rm 10) c (nI 0) (by omega)) (cwV 2 hC.1.2.2.2.2 gX6_raise_X6_thatAre rfl rfl rfl dV_X6_thatAre ⟨Nat.le_of_ble_eq_true rfl, Nat.le_of_ble_eq_true rfl⟩) rfl rfl rfl rfl (Nat.le_of_ble_eq_true rfl) dX6_raise_46 ⟨Nat.le_of_ble_eq_true rfl, Nat.le_of_ble_eq_true rfl⟩ [0, 7] rfl rfl ?_
      refine g_aload_n hC 0 dX6_raise_49 rfl rfl ?_
      refine g_iload_n hC 1 dX6_raise_50 rfl rfl ?_
      refine g_callVip (As := [.int (nI k)]) (rest := [.int (nI (thatAre nq c (nI 0)))]) hC (nI (ownB nq P (nI k))) (c_X6_ownOf l D cI cZ mo rm tl pl np nq nd rt rp rq rd cnt na sd rw rx tm tf sm sf P (nI k) (by omega)) (cwV 1 hC.1.2.2.2.2 gX6_raise_X6_ownOf rfl rfl rfl dV_X6_ownOf ⟨Nat.le_of_ble_eq_true rfl, Nat.le_of_ble_eq_true rfl⟩) rfl rfl rfl rfl (Nat.le_of_ble_eq_true rfl) dX6_raise_51 ⟨Nat.le_of_ble_eq_true rfl, Nat.le_of_ble_eq_true rfl⟩ [0, 1] rfl rfl ?_
      refine g_iand_n (a := (thatAre nq c (nI 0))) (b := (ownB nq P (nI k))) hC dX6_raise_54 ?_
      obtain ⟨may, hmay⟩ : ∃ x, x = thatAre nq c (nI 0) &&& ownB nq P (nI k) := ⟨_, rfl⟩
      have hob : ownB nq P (nI k) < 32 := bts_le hnq
      have hmay32 : may < 32 := by rw [hmay]; exact Nat.lt_of_le_of_lt Nat.and_le_right hob
      refine g_top (y := nI may) (by rw [hmay]) ?_
      refine g_istore (lv' := [(0, .ref mo), (1, .int (nI k)), (2, .int v), (3, .int (nI wn)), (4, .int (nI may))]) hC [1, 2, 3, 4, 0] dX6_raise_55 (by decide) rfl ?_
      refine g_aload_n hC 0 dX6_raise_57 rfl rfl ?_
      refine g_bipush (v := (-9)) hC dX6_raise_58 (by decide +kernel) ?_
      refine g_put (C := RX6) (T := TX6) (N := 38) (ci := 6) (v := .int (-9)) hC hcw6 tyX6 tyX6_ok nmX6 0 rfl rfl 30 (by decide) w4 (fun _ h => h) rfl (tyX6_ok 30 (by decide)) rfl rfl (Nat.le_of_ble_eq_true rfl) [(mo, o6 rm (nI tl) pl (nI np) (nI nq) (nI nd) rt rp rq rd (nI cnt) (nI na) sd (-9) rx tm tf sm sf), (rm 1, .inl (cI, 5, .inl (fun k_ => nI (P 0 k_)))), (rm 2, .inl (cI, 5, .inl (fun k_ => nI (P 1 k_)))), (rm 3, .inl (cI, 5, .inl (fun k_ => nI (P 2 k_)))), (rm 4, .inl (cI, 5, .inl (fun k_ => nI (P 3 k_)))), (rm 5, .inl (cI, 5, .inl (fun k_ => nI (P 4 k_)))), (rm 6, .inl (cI, 5, .inl (fun k_ => nI (P 5 k_)))), (rm 10, .inl (cI, 20, .inl (mp c))), (rm 11, .inl (cI, 20, .inl (mp g)))] rfl dX6_raise_60 ?_
      refine g_aload_n hC 0 dX6_raise_63 rfl rfl ?_
      refine g_bipush (v := (-9)) hC dX6_raise_64 (by decide +kernel) ?_
      refine g_put (C := RX6) (T := TX6) (N := 38) (ci := 6) (v := .int (-9)) hC hcw6 tyX6 tyX6_ok nmX6 0 rfl rfl 31 (by decide) w5 (fun _ h => h) rfl (tyX6_ok 31 (by decide)) rfl rfl (Nat.le_of_ble_eq_true rfl) [(mo, o6 rm (nI tl) pl (nI np) (nI nq) (nI nd) rt rp rq rd (nI cnt) (nI na) sd (-9) (-9) tm tf sm sf), (rm 1, .inl (cI, 5, .inl (fun k_ => nI (P 0 k_)))), (rm 2, .inl (cI, 5, .inl (fun k_ => nI (P 1 k_)))), (rm 3, .inl (cI, 5, .inl (fun k_ => nI (P 2 k_)))), (rm 4, .inl (cI, 5, .inl (fun k_ => nI (P 3 k_)))), (rm 5, .inl (cI, 5, .inl (fun k_ => nI (P 4 k_)))), (rm 6, .inl (cI, 5, .inl (fun k_ => nI (P 5 k_)))), (rm 10, .inl (cI, 20, .inl (mp c))), (rm 11, .inl (cI, 20, .inl (mp g)))] rfl dX6_raise_66 ?_
      refine g_iconst (v := nI 0) hC dX6_raise_69 rfl ?_
      refine g_istore (lv' := [(0, .ref mo), (1, .int (nI k)), (2, .int v), (3, .int (nI wn)), (4, .int (nI may)), (5, .int (nI 0))]) hC [1, 2, 3, 4, 5, 0] dX6_raise_70 (by decide) rfl ?_
      have L72 : ∀ (n : Nat) (i : Nat) (x4 : Int32) (x5 : Int32) (gg : Nat → Int32), (i ≤ M) → (x4 = oI ((raF P nq nd c k v i).map Prod.fst)) → (x5 = oI ((raF P nq nd c k v i).map Prod.snd)) → M - i < n → G p l e rm_X6_raise s m args below meth cd D A 0 0 Q 8 [(mo, o6 rm (nI tl) pl (nI np) (nI nq) (nI nd) rt rp rq rd (nI cnt) (nI na) sd x4 x5 tm tf sm sf), (rm 1, .inl (cI, 5, .inl (fun k_ => nI (P 0 k_)))), (rm 2, .inl (cI, 5, .inl (fun k_ => nI (P 1 k_)))), (rm 3, .inl (cI, 5, .inl (fun k_ => nI (P 2 k_)))), (rm 4, .inl (cI, 5, .inl (fun k_ => nI (P 3 k_)))), (rm 5, .inl (cI, 5, .inl (fun k_ => nI (P 4 k_)))), (rm 6, .inl (cI, 5, .inl (fun k_ => nI (P 5 k_)))), (rm 10, .inl (cI, 20, .inl (mp c))), (rm 11, .inl (cI, 20, .inl (mp gg)))] 72 [(0, .ref mo), (1, .int (nI k)), (2, .int v), (3, .int (nI wn)), (4, .int (nI may)), (5, .int (nI i))] [] := by
        intro n
        induction n with
        | zero => intro i x4 x5 gg hi hx4 hx5 hn; exact absurd hn (Nat.not_lt_zero _)
        | succ n ih72 =>
          intro i x4 x5 gg hi hx4 hx5 hn
          refine g_iload hC 5 dX6_raise_72 rfl ?_
          refine g_iconst (v := nI 1) hC dX6_raise_74 rfl ?_
          refine g_aload_n hC 0 dX6_raise_75 rfl rfl ?_
          refine g_get (C := RX6) (T := TX6) (N := 38) (ci := 6) (v := .int (nI nq)) hC hcw6 0 rfl rfl 5 (by decide) w6 (fun _ h => h) rfl dX6_raise_76 ?_
          refine g_shl1_n (b := nq) hC (by omega) dX6_raise_79 ?_
          refine g_top (y := nI M) (by rw [hM]) ?_
          refine g_icmp_ge_n (a := i) (b := M) hC (by omega) (by omega) 187 dX6_raise_80 (by decide) (fun h80t => ?_) (fun h80f => ?_)
          · have ei : i = M := by omega
            rw [ei, hM, ← raF_ext 32 (pow2_32 hnq)] at hx4 hx5
            refine g_iload_n hC 3 dX6_raise_187 rfl rfl ?_
            refine g_if_ne_n (a := wn) hC (by omega) 198 dX6_raise_188 (by decide) (fun h188t => ?_) (fun h188f => ?_)
            · refine g_aload_n hC 0 dX6_raise_198 rfl rfl ?_
              refine g_get (C := RX6) (T := TX6) (N := 38) (ci := 6) (v := .int x5) hC hcw6 0 rfl rfl 31 (by decide) w5 (fun _ h => h) rfl dX6_raise_199 ?_
              subst hQ
              refine g_iret (v := x5) hC (gg, x4, x5) hr ?_ rfl dX6_raise_202
              rw [raiseR, if_pos hin2, if_pos ⟨h24f, okw⟩, hKk, if_neg (fun q => h188t ((nI_eq (by omega) (by decide)).mp q))]; exact hx5
            refine g_aload_n hC 0 dX6_raise_191 rfl rfl ?_
            refine g_get (C := RX6) (T := TX6) (N := 38) (ci := 6) (v := .int x4) hC hcw6 0 rfl rfl 30 (by decide) w4 (fun _ h => h) rfl dX6_raise_192 ?_
            refine g_goto hC 202 dX6_raise_195 (by decide) ?_
            subst hQ
            refine g_iret (v := x4) hC (gg, x4, x5) hr ?_ rfl dX6_raise_202
            rw [raiseR, if_pos hin2, if_pos ⟨h24f, okw⟩, hKk, if_pos (by rw [h188f])]; exact hx4
          refine g_aload_n hC 0 dX6_raise_83 rfl rfl ?_
          refine g_iload hC 5 dX6_raise_84 rfl ?_
          refine g_callVip (As := [.int (nI i)]) (rest := []) hC (nI (sumW P i nq)) (c_X6_worthOf l D cI cZ mo rm tl pl np nq nd rt rp rq rd cnt na sd x4 x5 tm tf sm sf P i (by first | assumption | omega) (by first | assumption | omega)) (cwV 1 hC.1.2.2.2.2 gX6_raise_X6_worthOf rfl rfl rfl dV_X6_worthOf ⟨Nat.le_of_ble_eq_true rfl, Nat.le_of_ble_eq_true rfl⟩) rfl rfl rfl rfl (Nat.le_of_ble_eq_true rfl) dX6_raise_86 ⟨Nat.le_of_ble_eq_true rfl, Nat.le_of_ble_eq_true rfl⟩ [0, 2] rfl rfl ?_
          obtain ⟨sw, hsw⟩ : ∃ x, x = sumW P i nq := ⟨_, rfl⟩
          have hs45 : sw ≤ 45 := by rw [hsw]; have := sumW_le hW (z := i) nq (Nat.le_refl _); omega
          refine g_top (y := nI sw) (by rw [hsw]) ?_
          refine g_istore (lv' := [(0, .ref mo), (1, .int (nI k)), (2, .int v), (3, .int (nI wn)), (4, .int (nI may)), (5, .int (nI i)), (6, .int (nI sw))]) hC [1, 2, 3, 4, 5, 6, 0] dX6_raise_89 (by decide) rfl ?_
          refine g_iload hC 5 dX6_raise_91 rfl ?_
          refine g_iload hC 4 dX6_raise_93 rfl ?_
          refine g_iconst (v := (-1)) hC dX6_raise_95 rfl ?_
          refine g_ixor hC dX6_raise_96 ?_
          refine g_iand hC dX6_raise_97 ?_
          refine g_if_ne hC 181 dX6_raise_98 (by decide) (fun h98t => ?_) (fun h98f => ?_)
          · have hns : ¬ subB i may := fun q => h98t ((subB_i i (by omega) may hmay32).mpr q)
            refine g_iinc (v := nI (i + 1)) (lv' := [(0, .ref mo), (1, .int (nI k)), (2, .int v), (3, .int (nI wn)), (4, .int (nI may)), (5, .int (nI (i + 1))), (6, .int (nI sw))]) hC 5 [1, 2, 3, 4, 5, 0, 6] dX6_raise_181 rfl (nI_add _ 1) (by decide) rfl ?_
            refine g_goto hC 72 dX6_raise_184 (by decide) ?_
            refine g_lv [0, 1, 2, 3, 4, 5] (lv2 := [(0, .ref mo), (1, .int (nI k)), (2, .int v), (3, .int (nI wn)), (4, .int (nI may)), (5, .int (nI (i + 1)))]) rfl ?_
            refine ih72 (i + 1) x4 x5 gg ?_ ?_ ?_ ?_
            · omega
            · have hn1 : ifPl P nq nd c k i v = none := ifPl_f hW hk hT (by omega) (by omega) (fun q => hns (by rw [hmay]; exact q.1))
              have er : raF P nq nd c k v (i + 1) = (match ifPl P nq nd c k i v with | none => raF P nq nd c k v i | some d => match raF P nq nd c k v i with | none => some (i, d) | some (b, m) => if m < d ∨ (d = m ∧ pop5 i < pop5 b) then some (i, d) else some (b, m)) := rfl
              rw [er, hn1]; exact hx4
            · have hn1 : ifPl P nq nd c k i v = none := ifPl_f hW hk hT (by omega) (by omega) (fun q => hns (by rw [hmay]; exact q.1))
              have er : raF P nq nd c k v (i + 1) = (match ifPl P nq nd c k i v with | none => raF P nq nd c k v i | some d => match raF P nq nd c k v i with | none => some (i, d) | some (b, m) => if m < d ∨ (d = m ∧ pop5 i < pop5 b) then some (i, d) else some (b, m)) := rfl
              rw [er, hn1]; exact hx5
            · omega
          have hsub : subB i may := (subB_i i (by omega) may hmay32).mp h98f
          refine g_iload hC 6 dX6_raise_101 rfl ?_
          refine g_aload_n hC 0 dX6_raise_103 rfl rfl ?_
          refine g_get (C := RX6) (T := TX6) (N := 38) (ci := 6) (v := .ref (rm 10)) hC hcw6 0 rfl rfl 20 (by decide) w3 (fun _ h => h) rfl dX6_raise_104 ?_
          refine g_iconst (v := nI 0) hC dX6_raise_107 rfl ?_
          refine g_iald hC 7 rfl 0 rfl (by omega) (by decide) dX6_raise_108 ?_
          refine g_top (y := c 0) (mp_0 _) ?_
          refine g_top (y := nI T) (by rw [hT]) ?_
          refine g_icmp_gt_n (a := sw) (b := T) hC (by omega) (by omega) 181 dX6_raise_109 (by decide) (fun h109t => ?_) (fun h109f => ?_)
          · refine g_iinc (v := nI (i + 1)) (lv' := [(0, .ref mo), (1, .int (nI k)), (2, .int v), (3, .int (nI wn)), (4, .int (nI may)), (5, .int (nI (i + 1))), (6, .int (nI sw))]) hC 5 [1, 2, 3, 4, 5, 0, 6] dX6_raise_181 rfl (nI_add _ 1) (by decide) rfl ?_
            refine g_goto hC 72 dX6_raise_184 (by decide) ?_
            refine g_lv [0, 1, 2, 3, 4, 5] (lv2 := [(0, .ref mo), (1, .int (nI k)), (2, .int v), (3, .int (nI wn)), (4, .int (nI may)), (5, .int (nI (i + 1)))]) rfl ?_
            refine ih72 (i + 1) x4 x5 gg ?_ ?_ ?_ ?_
            · omega
            · have hn1 : ifPl P nq nd c k i v = none := ifPl_f hW hk hT (by omega) (by omega) (fun q => by have := q.2.1; omega)
              have er : raF P nq nd c k v (i + 1) = (match ifPl P nq nd c k i v with | none => raF P nq nd c k v i | some d => match raF P nq nd c k v i with | none => some (i, d) | some (b, m) => if m < d ∨ (d = m ∧ pop5 i < pop5 b) then some (i, d) else some (b, m)) := rfl
              rw [er, hn1]; exact hx4
            · have hn1 : ifPl P nq nd c k i v = none := ifPl_f hW hk hT (by omega) (by omega) (fun q => by have := q.2.1; omega)
              have er : raF P nq nd c k v (i + 1) = (match ifPl P nq nd c k i v with | none => raF P nq nd c k v i | some d => match raF P nq nd c k v i with | none => some (i, d) | some (b, m) => if m < d ∨ (d = m ∧ pop5 i < pop5 b) then some (i, d) else some (b, m)) := rfl
              rw [er, hn1]; exact hx5
            · omega
          refine g_aload_n hC 0 dX6_raise_112 rfl rfl ?_
          refine g_get (C := RX6) (T := TX6) (N := 38) (ci := 6) (v := .ref (rm 10)) hC hcw6 0 rfl rfl 20 (by decide) w3 (fun _ h => h) rfl dX6_raise_113 ?_
          refine g_iconst (v := nI 1) hC dX6_raise_116 rfl ?_
          refine g_iload_n hC 1 dX6_raise_117 rfl rfl ?_
          refine g_iadd_n (a := 1) (b := k) hC dX6_raise_118 ?_
          refine g_iald hC 7 rfl (1 + k) rfl (by omega) (by decide) dX6_raise_119 ?_
          refine g_top (y := c (2 + k)) (mp_1 _ (by omega)) ?_
          refine g_iload hC 6 dX6_raise_120 rfl ?_
          refine g_iadd hC dX6_raise_122 ?_
          refine g_iload_n hC 2 dX6_raise_123 rfl rfl ?_
          refine g_icmp_lt hC 181 dX6_raise_124 (by decide) (fun h124t => ?_) (fun h124f => ?_)
          · refine g_iinc (v := nI (i + 1)) (lv' := [(0, .ref mo), (1, .int (nI k)), (2, .int v), (3, .int (nI wn)), (4, .int (nI may)), (5, .int (nI (i + 1))), (6, .int (nI sw))]) hC 5 [1, 2, 3, 4, 5, 0, 6] dX6_raise_181 rfl (nI_add _ 1) (by decide) rfl ?_
            refine g_goto hC 72 dX6_raise_184 (by decide) ?_
            refine g_lv [0, 1, 2, 3, 4, 5] (lv2 := [(0, .ref mo), (1, .int (nI k)), (2, .int v), (3, .int (nI wn)), (4, .int (nI may)), (5, .int (nI (i + 1)))]) rfl ?_
            refine ih72 (i + 1) x4 x5 gg ?_ ?_ ?_ ?_
            · omega
            · have hn1 : ifPl P nq nd c k i v = none := ifPl_f hW hk hT (by omega) (by omega) (fun q => absurd q.2.2 (Int32.not_le.mpr (by rw [← hsw]; exact h124t)))
              have er : raF P nq nd c k v (i + 1) = (match ifPl P nq nd c k i v with | none => raF P nq nd c k v i | some d => match raF P nq nd c k v i with | none => some (i, d) | some (b, m) => if m < d ∨ (d = m ∧ pop5 i < pop5 b) then some (i, d) else some (b, m)) := rfl
              rw [er, hn1]; exact hx4
            · have hn1 : ifPl P nq nd c k i v = none := ifPl_f hW hk hT (by omega) (by omega) (fun q => absurd q.2.2 (Int32.not_le.mpr (by rw [← hsw]; exact h124t)))
              have er : raF P nq nd c k v (i + 1) = (match ifPl P nq nd c k i v with | none => raF P nq nd c k v i | some d => match raF P nq nd c k v i with | none => some (i, d) | some (b, m) => if m < d ∨ (d = m ∧ pop5 i < pop5 b) then some (i, d) else some (b, m)) := rfl
              rw [er, hn1]; exact hx5
            · omega
          refine g_aload_n hC 0 dX6_raise_127 rfl rfl ?_
          refine g_iload_n hC 1 dX6_raise_128 rfl rfl ?_
          refine g_iload hC 5 dX6_raise_129 rfl ?_
          refine g_callVi (As := [.int (nI k), .int (nI i)]) (rest := []) hC (c_X6_doneBy l D cI cZ mo rm tl pl np nq nd rt rp rq rd cnt na sd x4 x5 tm tf sm sf P c gg t k i (by first | assumption | omega) (by first | assumption | omega) (by first | assumption | omega) hk (by first | assumption | omega)) (cwV 2 hC.1.2.2.2.2 gX6_raise_X6_doneBy rfl rfl rfl dV_X6_doneBy ⟨Nat.le_of_ble_eq_true rfl, Nat.le_of_ble_eq_true rfl⟩) rfl rfl rfl rfl (Nat.le_of_ble_eq_true rfl) dX6_raise_131 ⟨Nat.le_of_ble_eq_true rfl, Nat.le_of_ble_eq_true rfl⟩ [0, 1, 2, 3, 4, 5, 6, 7, 8] [] [0, 1, 2, 3, 4, 5, 6, 7, 8] (fun (g2_1 : Nat → Int32) => [(mo, o6 rm (nI tl) pl (nI np) (nI nq) (nI nd) rt rp rq rd (nI cnt) (nI na) sd x4 x5 tm tf sm sf), (rm 1, .inl (cI, 5, .inl (fun k_ => nI (P 0 k_)))), (rm 2, .inl (cI, 5, .inl (fun k_ => nI (P 1 k_)))), (rm 3, .inl (cI, 5, .inl (fun k_ => nI (P 2 k_)))), (rm 4, .inl (cI, 5, .inl (fun k_ => nI (P 3 k_)))), (rm 5, .inl (cI, 5, .inl (fun k_ => nI (P 4 k_)))), (rm 6, .inl (cI, 5, .inl (fun k_ => nI (P 5 k_)))), (rm 10, .inl (cI, 20, .inl (mp c))), (rm 11, .inl (cI, 20, .inl (mp g2_1)))]) rfl rfl rfl (fun _ => rfl) (fun r131 z131 hp131 => ?_)
          obtain ⟨g2_1, rfl⟩ : ∃ y, y = z131 := ⟨_, rfl⟩
          try dsimp only at hp131
          refine g_is (ws2 := [(mo, o6 rm (nI tl) pl (nI np) (nI nq) (nI nd) rt rp rq rd (nI cnt) (nI na) sd x4 x5 tm tf sm sf), (rm 1, .inl (cI, 5, .inl (fun k_ => nI (P 0 k_)))), (rm 2, .inl (cI, 5, .inl (fun k_ => nI (P 1 k_)))), (rm 3, .inl (cI, 5, .inl (fun k_ => nI (P 2 k_)))), (rm 4, .inl (cI, 5, .inl (fun k_ => nI (P 3 k_)))), (rm 5, .inl (cI, 5, .inl (fun k_ => nI (P 4 k_)))), (rm 6, .inl (cI, 5, .inl (fun k_ => nI (P 5 k_)))), (rm 10, .inl (cI, 20, .inl (mp c))), (rm 11, .inl (cI, 20, .inl (mp g2_1)))]) (lv2 := [(0, .ref mo), (1, .int (nI k)), (2, .int v), (3, .int (nI wn)), (4, .int (nI may)), (5, .int (nI i)), (6, .int (nI sw))]) (st2 := [.int r131]) rfl rfl rfl ?_
          obtain ⟨d, hd⟩ : ∃ d, d = pop5 (deedsThat nd (passN P nq nd (plG P i c nq) 20) (nI 1) &&& deedsB nd P (nI k)) := ⟨_, rfl⟩
          have hd5 : d ≤ 5 := by rw [hd]; exact pop5_le5 _
          have hi1 : ifPl P nq nd c k i v = some d := by rw [hd]; exact ifPl_t hW hk hT (by omega) (by omega) (by rw [← hmay]; exact hsub) (by omega) (by rw [← hsw]; exact Int32.not_lt.mp h124f)
          refine g_top (y := nI d) (by rw [hp131, hd]) ?_
          refine g_istore (lv' := [(0, .ref mo), (1, .int (nI k)), (2, .int v), (3, .int (nI wn)), (4, .int (nI may)), (5, .int (nI i)), (6, .int (nI sw)), (7, .int (nI d))]) hC [1, 2, 3, 4, 5, 6, 7, 0] dX6_raise_134 (by decide) rfl ?_
          by_cases hq2 : raF P nq nd c k v i ≠ none
          · obtain ⟨⟨b, m2⟩, hd2s⟩ := Option.ne_none_iff_exists'.mp hq2
            have hbm := raF_lt i hd2s
            have hpi := pop5_le5 i
            have hpb := pop5_le5 b
            have efld : x4 = nI b := by rw [hx4, hd2s]; rfl
            refine g_ws (ws2 := [(mo, o6 rm (nI tl) pl (nI np) (nI nq) (nI nd) rt rp rq rd (nI cnt) (nI na) sd (nI b) x5 tm tf sm sf), (rm 1, .inl (cI, 5, .inl (fun k_ => nI (P 0 k_)))), (rm 2, .inl (cI, 5, .inl (fun k_ => nI (P 1 k_)))), (rm 3, .inl (cI, 5, .inl (fun k_ => nI (P 2 k_)))), (rm 4, .inl (cI, 5, .inl (fun k_ => nI (P 3 k_)))), (rm 5, .inl (cI, 5, .inl (fun k_ => nI (P 4 k_)))), (rm 6, .inl (cI, 5, .inl (fun k_ => nI (P 5 k_)))), (rm 10, .inl (cI, 20, .inl (mp c))), (rm 11, .inl (cI, 20, .inl (mp g2_1)))]) (congrArg (fun zz : Int32 => ([(mo, o6 rm (nI tl) pl (nI np) (nI nq) (nI nd) rt rp rq rd (nI cnt) (nI na) sd zz x5 tm tf sm sf), (rm 1, .inl (cI, 5, .inl (fun k_ => nI (P 0 k_)))), (rm 2, .inl (cI, 5, .inl (fun k_ => nI (P 1 k_)))), (rm 3, .inl (cI, 5, .inl (fun k_ => nI (P 2 k_)))), (rm 4, .inl (cI, 5, .inl (fun k_ => nI (P 3 k_)))), (rm 5, .inl (cI, 5, .inl (fun k_ => nI (P 4 k_)))), (rm 6, .inl (cI, 5, .inl (fun k_ => nI (P 5 k_)))), (rm 10, .inl (cI, 20, .inl (mp c))), (rm 11, .inl (cI, 20, .inl (mp g2_1)))] : va_W)) efld) ?_
            have efld : x5 = nI m2 := by rw [hx5, hd2s]; rfl
            refine g_ws (ws2 := [(mo, o6 rm (nI tl) pl (nI np) (nI nq) (nI nd) rt rp rq rd (nI cnt) (nI na) sd (nI b) (nI m2) tm tf sm sf), (rm 1, .inl (cI, 5, .inl (fun k_ => nI (P 0 k_)))), (rm 2, .inl (cI, 5, .inl (fun k_ => nI (P 1 k_)))), (rm 3, .inl (cI, 5, .inl (fun k_ => nI (P 2 k_)))), (rm 4, .inl (cI, 5, .inl (fun k_ => nI (P 3 k_)))), (rm 5, .inl (cI, 5, .inl (fun k_ => nI (P 4 k_)))), (rm 6, .inl (cI, 5, .inl (fun k_ => nI (P 5 k_)))), (rm 10, .inl (cI, 20, .inl (mp c))), (rm 11, .inl (cI, 20, .inl (mp g2_1)))]) (congrArg (fun zz : Int32 => ([(mo, o6 rm (nI tl) pl (nI np) (nI nq) (nI nd) rt rp rq rd (nI cnt) (nI na) sd (nI b) zz tm tf sm sf), (rm 1, .inl (cI, 5, .inl (fun k_ => nI (P 0 k_)))), (rm 2, .inl (cI, 5, .inl (fun k_ => nI (P 1 k_)))), (rm 3, .inl (cI, 5, .inl (fun k_ => nI (P 2 k_)))), (rm 4, .inl (cI, 5, .inl (fun k_ => nI (P 3 k_)))), (rm 5, .inl (cI, 5, .inl (fun k_ => nI (P 4 k_)))), (rm 6, .inl (cI, 5, .inl (fun k_ => nI (P 5 k_)))), (rm 10, .inl (cI, 20, .inl (mp c))), (rm 11, .inl (cI, 20, .inl (mp g2_1)))] : va_W)) efld) ?_
            refine g_iload hC 7 dX6_raise_136 rfl ?_
            refine g_aload_n hC 0 dX6_raise_138 rfl rfl ?_
            refine g_get (C := RX6) (T := TX6) (N := 38) (ci := 6) (v := .int (nI m2)) hC hcw6 0 rfl rfl 31 (by decide) w5 (fun _ h => h) rfl dX6_raise_139 ?_
            refine g_icmp_gt_n (a := d) (b := m2) hC (by omega) (by omega) 169 dX6_raise_142 (by decide) (fun h142t => ?_) (fun h142f => ?_)
            · refine g_aload_n hC 0 dX6_raise_169 rfl rfl ?_
              refine g_iload hC 7 dX6_raise_170 rfl ?_
              refine g_put (C := RX6) (T := TX6) (N := 38) (ci := 6) (v := .int (nI d)) hC hcw6 tyX6 tyX6_ok nmX6 0 rfl rfl 31 (by decide) w5 (fun _ h => h) rfl (tyX6_ok 31 (by decide)) rfl rfl (Nat.le_of_ble_eq_true rfl) [(mo, o6 rm (nI tl) pl (nI np) (nI nq) (nI nd) rt rp rq rd (nI cnt) (nI na) sd (nI b) (nI d) tm tf sm sf), (rm 1, .inl (cI, 5, .inl (fun k_ => nI (P 0 k_)))), (rm 2, .inl (cI, 5, .inl (fun k_ => nI (P 1 k_)))), (rm 3, .inl (cI, 5, .inl (fun k_ => nI (P 2 k_)))), (rm 4, .inl (cI, 5, .inl (fun k_ => nI (P 3 k_)))), (rm 5, .inl (cI, 5, .inl (fun k_ => nI (P 4 k_)))), (rm 6, .inl (cI, 5, .inl (fun k_ => nI (P 5 k_)))), (rm 10, .inl (cI, 20, .inl (mp c))), (rm 11, .inl (cI, 20, .inl (mp g2_1)))] rfl dX6_raise_172 ?_
              refine g_aload_n hC 0 dX6_raise_175 rfl rfl ?_
              refine g_iload hC 5 dX6_raise_176 rfl ?_
              refine g_put (C := RX6) (T := TX6) (N := 38) (ci := 6) (v := .int (nI i)) hC hcw6 tyX6 tyX6_ok nmX6 0 rfl rfl 30 (by decide) w4 (fun _ h => h) rfl (tyX6_ok 30 (by decide)) rfl rfl (Nat.le_of_ble_eq_true rfl) [(mo, o6 rm (nI tl) pl (nI np) (nI nq) (nI nd) rt rp rq rd (nI cnt) (nI na) sd (nI i) (nI d) tm tf sm sf), (rm 1, .inl (cI, 5, .inl (fun k_ => nI (P 0 k_)))), (rm 2, .inl (cI, 5, .inl (fun k_ => nI (P 1 k_)))), (rm 3, .inl (cI, 5, .inl (fun k_ => nI (P 2 k_)))), (rm 4, .inl (cI, 5, .inl (fun k_ => nI (P 3 k_)))), (rm 5, .inl (cI, 5, .inl (fun k_ => nI (P 4 k_)))), (rm 6, .inl (cI, 5, .inl (fun k_ => nI (P 5 k_)))), (rm 10, .inl (cI, 20, .inl (mp c))), (rm 11, .inl (cI, 20, .inl (mp g2_1)))] rfl dX6_raise_178 ?_
              refine g_iinc (v := nI (i + 1)) (lv' := [(0, .ref mo), (1, .int (nI k)), (2, .int v), (3, .int (nI wn)), (4, .int (nI may)), (5, .int (nI (i + 1))), (6, .int (nI sw)), (7, .int (nI d))]) hC 5 [1, 2, 3, 4, 5, 0, 6, 7] dX6_raise_181 rfl (nI_add _ 1) (by decide) rfl ?_
              refine g_goto hC 72 dX6_raise_184 (by decide) ?_
              refine g_lv [0, 1, 2, 3, 4, 5] (lv2 := [(0, .ref mo), (1, .int (nI k)), (2, .int v), (3, .int (nI wn)), (4, .int (nI may)), (5, .int (nI (i + 1)))]) rfl ?_
              refine ih72 (i + 1) (nI i) (nI d) g2_1 ?_ ?_ ?_ ?_
              · omega
              · have er : raF P nq nd c k v (i + 1) = (match ifPl P nq nd c k i v with | none => raF P nq nd c k v i | some d => match raF P nq nd c k v i with | none => some (i, d) | some (b, m) => if m < d ∨ (d = m ∧ pop5 i < pop5 b) then some (i, d) else some (b, m)) := rfl
                rw [er, hi1, hd2s]; show _ = oI (((if m2 < d ∨ (d = m2 ∧ pop5 i < pop5 b) then some (i, d) else some (b, m2)) : Option (Nat × Nat)).map Prod.fst)
                rw [if_pos (by omega)]; rfl
              · have er : raF P nq nd c k v (i + 1) = (match ifPl P nq nd c k i v with | none => raF P nq nd c k v i | some d => match raF P nq nd c k v i with | none => some (i, d) | some (b, m) => if m < d ∨ (d = m ∧ pop5 i < pop5 b) then some (i, d) else some (b, m)) := rfl
                rw [er, hi1, hd2s]; show _ = oI (((if m2 < d ∨ (d = m2 ∧ pop5 i < pop5 b) then some (i, d) else some (b, m2)) : Option (Nat × Nat)).map Prod.snd)
                rw [if_pos (by omega)]; rfl
              · omega
            refine g_iload hC 7 dX6_raise_145 rfl ?_
            refine g_aload_n hC 0 dX6_raise_147 rfl rfl ?_
            refine g_get (C := RX6) (T := TX6) (N := 38) (ci := 6) (v := .int (nI m2)) hC hcw6 0 rfl rfl 31 (by decide) w5 (fun _ h => h) rfl dX6_raise_148 ?_
            refine g_icmp_ne_n (a := d) (b := m2) hC (by omega) (by omega) 181 dX6_raise_151 (by decide) (fun h151t => ?_) (fun h151f => ?_)
            · refine g_iinc (v := nI (i + 1)) (lv' := [(0, .ref mo), (1, .int (nI k)), (2, .int v), (3, .int (nI wn)), (4, .int (nI may)), (5, .int (nI (i + 1))), (6, .int (nI sw)), (7, .int (nI d))]) hC 5 [1, 2, 3, 4, 5, 0, 6, 7] dX6_raise_181 rfl (nI_add _ 1) (by decide) rfl ?_
              refine g_goto hC 72 dX6_raise_184 (by decide) ?_
              refine g_lv [0, 1, 2, 3, 4, 5] (lv2 := [(0, .ref mo), (1, .int (nI k)), (2, .int v), (3, .int (nI wn)), (4, .int (nI may)), (5, .int (nI (i + 1)))]) rfl ?_
              refine ih72 (i + 1) (nI b) (nI m2) g2_1 ?_ ?_ ?_ ?_
              · omega
              · have er : raF P nq nd c k v (i + 1) = (match ifPl P nq nd c k i v with | none => raF P nq nd c k v i | some d => match raF P nq nd c k v i with | none => some (i, d) | some (b, m) => if m < d ∨ (d = m ∧ pop5 i < pop5 b) then some (i, d) else some (b, m)) := rfl
                rw [er, hi1, hd2s]; show _ = oI (((if m2 < d ∨ (d = m2 ∧ pop5 i < pop5 b) then some (i, d) else some (b, m2)) : Option (Nat × Nat)).map Prod.fst)
                rw [if_neg (by omega)]; rfl
              · have er : raF P nq nd c k v (i + 1) = (match ifPl P nq nd c k i v with | none => raF P nq nd c k v i | some d => match raF P nq nd c k v i with | none => some (i, d) | some (b, m) => if m < d ∨ (d = m ∧ pop5 i < pop5 b) then some (i, d) else some (b, m)) := rfl
                rw [er, hi1, hd2s]; show _ = oI (((if m2 < d ∨ (d = m2 ∧ pop5 i < pop5 b) then some (i, d) else some (b, m2)) : Option (Nat × Nat)).map Prod.snd)
                rw [if_neg (by omega)]; rfl
              · omega
            refine g_iload hC 5 dX6_raise_154 rfl ?_
            refine g_callSip (As := [.int (nI i)]) (rest := []) hC (nI (pop5 i)) (c_X6_many l D cI cZ i (by omega)) (va_cwS 1 hC.1.2.2.2.2 gX6_raise_X6_many rfl rfl rfl dS_X6_many ⟨Nat.le_of_ble_eq_true rfl, Nat.le_of_ble_eq_true rfl⟩) rfl rfl (Nat.le_of_ble_eq_true rfl) dX6_raise_156 ⟨Nat.le_of_ble_eq_true rfl, Nat.le_of_ble_eq_true rfl⟩ [] rfl rfl ?_
            refine g_aload_n hC 0 dX6_raise_159 rfl rfl ?_
            refine g_get (C := RX6) (T := TX6) (N := 38) (ci := 6) (v := .int (nI b)) hC hcw6 0 rfl rfl 30 (by decide) w4 (fun _ h => h) rfl dX6_raise_160 ?_
            refine g_callSip (As := [.int (nI b)]) (rest := [.int (nI (pop5 i))]) hC (nI (pop5 b)) (c_X6_many l D cI cZ b (by omega)) (va_cwS 1 hC.1.2.2.2.2 gX6_raise_X6_many rfl rfl rfl dS_X6_many ⟨Nat.le_of_ble_eq_true rfl, Nat.le_of_ble_eq_true rfl⟩) rfl rfl (Nat.le_of_ble_eq_true rfl) dX6_raise_163 ⟨Nat.le_of_ble_eq_true rfl, Nat.le_of_ble_eq_true rfl⟩ [] rfl rfl ?_
            refine g_icmp_ge_n (a := (pop5 i)) (b := (pop5 b)) hC (by omega) (by omega) 181 dX6_raise_166 (by decide) (fun h166t => ?_) (fun h166f => ?_)
            · refine g_iinc (v := nI (i + 1)) (lv' := [(0, .ref mo), (1, .int (nI k)), (2, .int v), (3, .int (nI wn)), (4, .int (nI may)), (5, .int (nI (i + 1))), (6, .int (nI sw)), (7, .int (nI d))]) hC 5 [1, 2, 3, 4, 5, 0, 6, 7] dX6_raise_181 rfl (nI_add _ 1) (by decide) rfl ?_
              refine g_goto hC 72 dX6_raise_184 (by decide) ?_
              refine g_lv [0, 1, 2, 3, 4, 5] (lv2 := [(0, .ref mo), (1, .int (nI k)), (2, .int v), (3, .int (nI wn)), (4, .int (nI may)), (5, .int (nI (i + 1)))]) rfl ?_
              refine ih72 (i + 1) (nI b) (nI m2) g2_1 ?_ ?_ ?_ ?_
              · omega
              · have er : raF P nq nd c k v (i + 1) = (match ifPl P nq nd c k i v with | none => raF P nq nd c k v i | some d => match raF P nq nd c k v i with | none => some (i, d) | some (b, m) => if m < d ∨ (d = m ∧ pop5 i < pop5 b) then some (i, d) else some (b, m)) := rfl
                rw [er, hi1, hd2s]; show _ = oI (((if m2 < d ∨ (d = m2 ∧ pop5 i < pop5 b) then some (i, d) else some (b, m2)) : Option (Nat × Nat)).map Prod.fst)
                rw [if_neg (by omega)]; rfl
              · have er : raF P nq nd c k v (i + 1) = (match ifPl P nq nd c k i v with | none => raF P nq nd c k v i | some d => match raF P nq nd c k v i with | none => some (i, d) | some (b, m) => if m < d ∨ (d = m ∧ pop5 i < pop5 b) then some (i, d) else some (b, m)) := rfl
                rw [er, hi1, hd2s]; show _ = oI (((if m2 < d ∨ (d = m2 ∧ pop5 i < pop5 b) then some (i, d) else some (b, m2)) : Option (Nat × Nat)).map Prod.snd)
                rw [if_neg (by omega)]; rfl
              · omega
            refine g_aload_n hC 0 dX6_raise_169 rfl rfl ?_
            refine g_iload hC 7 dX6_raise_170 rfl ?_
            refine g_put (C := RX6) (T := TX6) (N := 38) (ci := 6) (v := .int (nI d)) hC hcw6 tyX6 tyX6_ok nmX6 0 rfl rfl 31 (by decide) w5 (fun _ h => h) rfl (tyX6_ok 31 (by decide)) rfl rfl (Nat.le_of_ble_eq_true rfl) [(mo, o6 rm (nI tl) pl (nI np) (nI nq) (nI nd) rt rp rq rd (nI cnt) (nI na) sd (nI b) (nI d) tm tf sm sf), (rm 1, .inl (cI, 5, .inl (fun k_ => nI (P 0 k_)))), (rm 2, .inl (cI, 5, .inl (fun k_ => nI (P 1 k_)))), (rm 3, .inl (cI, 5, .inl (fun k_ => nI (P 2 k_)))), (rm 4, .inl (cI, 5, .inl (fun k_ => nI (P 3 k_)))), (rm 5, .inl (cI, 5, .inl (fun k_ => nI (P 4 k_)))), (rm 6, .inl (cI, 5, .inl (fun k_ => nI (P 5 k_)))), (rm 10, .inl (cI, 20, .inl (mp c))), (rm 11, .inl (cI, 20, .inl (mp g2_1)))] rfl dX6_raise_172 ?_
            refine g_aload_n hC 0 dX6_raise_175 rfl rfl ?_
            refine g_iload hC 5 dX6_raise_176 rfl ?_
            refine g_put (C := RX6) (T := TX6) (N := 38) (ci := 6) (v := .int (nI i)) hC hcw6 tyX6 tyX6_ok nmX6 0 rfl rfl 30 (by decide) w4 (fun _ h => h) rfl (tyX6_ok 30 (by decide)) rfl rfl (Nat.le_of_ble_eq_true rfl) [(mo, o6 rm (nI tl) pl (nI np) (nI nq) (nI nd) rt rp rq rd (nI cnt) (nI na) sd (nI i) (nI d) tm tf sm sf), (rm 1, .inl (cI, 5, .inl (fun k_ => nI (P 0 k_)))), (rm 2, .inl (cI, 5, .inl (fun k_ => nI (P 1 k_)))), (rm 3, .inl (cI, 5, .inl (fun k_ => nI (P 2 k_)))), (rm 4, .inl (cI, 5, .inl (fun k_ => nI (P 3 k_)))), (rm 5, .inl (cI, 5, .inl (fun k_ => nI (P 4 k_)))), (rm 6, .inl (cI, 5, .inl (fun k_ => nI (P 5 k_)))), (rm 10, .inl (cI, 20, .inl (mp c))), (rm 11, .inl (cI, 20, .inl (mp g2_1)))] rfl dX6_raise_178 ?_
            refine g_iinc (v := nI (i + 1)) (lv' := [(0, .ref mo), (1, .int (nI k)), (2, .int v), (3, .int (nI wn)), (4, .int (nI may)), (5, .int (nI (i + 1))), (6, .int (nI sw)), (7, .int (nI d))]) hC 5 [1, 2, 3, 4, 5, 0, 6, 7] dX6_raise_181 rfl (nI_add _ 1) (by decide) rfl ?_
            refine g_goto hC 72 dX6_raise_184 (by decide) ?_
            refine g_lv [0, 1, 2, 3, 4, 5] (lv2 := [(0, .ref mo), (1, .int (nI k)), (2, .int v), (3, .int (nI wn)), (4, .int (nI may)), (5, .int (nI (i + 1)))]) rfl ?_
            refine ih72 (i + 1) (nI i) (nI d) g2_1 ?_ ?_ ?_ ?_
            · omega
            · have er : raF P nq nd c k v (i + 1) = (match ifPl P nq nd c k i v with | none => raF P nq nd c k v i | some d => match raF P nq nd c k v i with | none => some (i, d) | some (b, m) => if m < d ∨ (d = m ∧ pop5 i < pop5 b) then some (i, d) else some (b, m)) := rfl
              rw [er, hi1, hd2s]; show _ = oI (((if m2 < d ∨ (d = m2 ∧ pop5 i < pop5 b) then some (i, d) else some (b, m2)) : Option (Nat × Nat)).map Prod.fst)
              rw [if_pos (by omega)]; rfl
            · have er : raF P nq nd c k v (i + 1) = (match ifPl P nq nd c k i v with | none => raF P nq nd c k v i | some d => match raF P nq nd c k v i with | none => some (i, d) | some (b, m) => if m < d ∨ (d = m ∧ pop5 i < pop5 b) then some (i, d) else some (b, m)) := rfl
              rw [er, hi1, hd2s]; show _ = oI (((if m2 < d ∨ (d = m2 ∧ pop5 i < pop5 b) then some (i, d) else some (b, m2)) : Option (Nat × Nat)).map Prod.snd)
              rw [if_pos (by omega)]; rfl
            · omega
          have hd2n := Decidable.not_not.mp hq2
          have efld : x4 = -9 := by rw [hx4, hd2n]; rfl
          refine g_ws (ws2 := [(mo, o6 rm (nI tl) pl (nI np) (nI nq) (nI nd) rt rp rq rd (nI cnt) (nI na) sd (-9) x5 tm tf sm sf), (rm 1, .inl (cI, 5, .inl (fun k_ => nI (P 0 k_)))), (rm 2, .inl (cI, 5, .inl (fun k_ => nI (P 1 k_)))), (rm 3, .inl (cI, 5, .inl (fun k_ => nI (P 2 k_)))), (rm 4, .inl (cI, 5, .inl (fun k_ => nI (P 3 k_)))), (rm 5, .inl (cI, 5, .inl (fun k_ => nI (P 4 k_)))), (rm 6, .inl (cI, 5, .inl (fun k_ => nI (P 5 k_)))), (rm 10, .inl (cI, 20, .inl (mp c))), (rm 11, .inl (cI, 20, .inl (mp g2_1)))]) (congrArg (fun zz : Int32 => ([(mo, o6 rm (nI tl) pl (nI np) (nI nq) (nI nd) rt rp rq rd (nI cnt) (nI na) sd zz x5 tm tf sm sf), (rm 1, .inl (cI, 5, .inl (fun k_ => nI (P 0 k_)))), (rm 2, .inl (cI, 5, .inl (fun k_ => nI (P 1 k_)))), (rm 3, .inl (cI, 5, .inl (fun k_ => nI (P 2 k_)))), (rm 4, .inl (cI, 5, .inl (fun k_ => nI (P 3 k_)))), (rm 5, .inl (cI, 5, .inl (fun k_ => nI (P 4 k_)))), (rm 6, .inl (cI, 5, .inl (fun k_ => nI (P 5 k_)))), (rm 10, .inl (cI, 20, .inl (mp c))), (rm 11, .inl (cI, 20, .inl (mp g2_1)))] : va_W)) efld) ?_
          have efld : x5 = -9 := by rw [hx5, hd2n]; rfl
          refine g_ws (ws2 := [(mo, o6 rm (nI tl) pl (nI np) (nI nq) (nI nd) rt rp rq rd (nI cnt) (nI na) sd (-9) (-9) tm tf sm sf), (rm 1, .inl (cI, 5, .inl (fun k_ => nI (P 0 k_)))), (rm 2, .inl (cI, 5, .inl (fun k_ => nI (P 1 k_)))), (rm 3, .inl (cI, 5, .inl (fun k_ => nI (P 2 k_)))), (rm 4, .inl (cI, 5, .inl (fun k_ => nI (P 3 k_)))), (rm 5, .inl (cI, 5, .inl (fun k_ => nI (P 4 k_)))), (rm 6, .inl (cI, 5, .inl (fun k_ => nI (P 5 k_)))), (rm 10, .inl (cI, 20, .inl (mp c))), (rm 11, .inl (cI, 20, .inl (mp g2_1)))]) (congrArg (fun zz : Int32 => ([(mo, o6 rm (nI tl) pl (nI np) (nI nq) (nI nd) rt rp rq rd (nI cnt) (nI na) sd (-9) zz tm tf sm sf), (rm 1, .inl (cI, 5, .inl (fun k_ => nI (P 0 k_)))), (rm 2, .inl (cI, 5, .inl (fun k_ => nI (P 1 k_)))), (rm 3, .inl (cI, 5, .inl (fun k_ => nI (P 2 k_)))), (rm 4, .inl (cI, 5, .inl (fun k_ => nI (P 3 k_)))), (rm 5, .inl (cI, 5, .inl (fun k_ => nI (P 4 k_)))), (rm 6, .inl (cI, 5, .inl (fun k_ => nI (P 5 k_)))), (rm 10, .inl (cI, 20, .inl (mp c))), (rm 11, .inl (cI, 20, .inl (mp g2_1)))] : va_W)) efld) ?_
          refine g_iload hC 7 dX6_raise_136 rfl ?_
          refine g_aload_n hC 0 dX6_raise_138 rfl rfl ?_
          refine g_get (C := RX6) (T := TX6) (N := 38) (ci := 6) (v := .int (-9)) hC hcw6 0 rfl rfl 31 (by decide) w5 (fun _ h => h) rfl dX6_raise_139 ?_
          refine g_icmp_gt hC 169 dX6_raise_142 (by decide) (fun h142t => ?_) (fun h142f => ?_)
          · refine g_aload_n hC 0 dX6_raise_169 rfl rfl ?_
            refine g_iload hC 7 dX6_raise_170 rfl ?_
            refine g_put (C := RX6) (T := TX6) (N := 38) (ci := 6) (v := .int (nI d)) hC hcw6 tyX6 tyX6_ok nmX6 0 rfl rfl 31 (by decide) w5 (fun _ h => h) rfl (tyX6_ok 31 (by decide)) rfl rfl (Nat.le_of_ble_eq_true rfl) [(mo, o6 rm (nI tl) pl (nI np) (nI nq) (nI nd) rt rp rq rd (nI cnt) (nI na) sd (-9) (nI d) tm tf sm sf), (rm 1, .inl (cI, 5, .inl (fun k_ => nI (P 0 k_)))), (rm 2, .inl (cI, 5, .inl (fun k_ => nI (P 1 k_)))), (rm 3, .inl (cI, 5, .inl (fun k_ => nI (P 2 k_)))), (rm 4, .inl (cI, 5, .inl (fun k_ => nI (P 3 k_)))), (rm 5, .inl (cI, 5, .inl (fun k_ => nI (P 4 k_)))), (rm 6, .inl (cI, 5, .inl (fun k_ => nI (P 5 k_)))), (rm 10, .inl (cI, 20, .inl (mp c))), (rm 11, .inl (cI, 20, .inl (mp g2_1)))] rfl dX6_raise_172 ?_
            refine g_aload_n hC 0 dX6_raise_175 rfl rfl ?_
            refine g_iload hC 5 dX6_raise_176 rfl ?_
            refine g_put (C := RX6) (T := TX6) (N := 38) (ci := 6) (v := .int (nI i)) hC hcw6 tyX6 tyX6_ok nmX6 0 rfl rfl 30 (by decide) w4 (fun _ h => h) rfl (tyX6_ok 30 (by decide)) rfl rfl (Nat.le_of_ble_eq_true rfl) [(mo, o6 rm (nI tl) pl (nI np) (nI nq) (nI nd) rt rp rq rd (nI cnt) (nI na) sd (nI i) (nI d) tm tf sm sf), (rm 1, .inl (cI, 5, .inl (fun k_ => nI (P 0 k_)))), (rm 2, .inl (cI, 5, .inl (fun k_ => nI (P 1 k_)))), (rm 3, .inl (cI, 5, .inl (fun k_ => nI (P 2 k_)))), (rm 4, .inl (cI, 5, .inl (fun k_ => nI (P 3 k_)))), (rm 5, .inl (cI, 5, .inl (fun k_ => nI (P 4 k_)))), (rm 6, .inl (cI, 5, .inl (fun k_ => nI (P 5 k_)))), (rm 10, .inl (cI, 20, .inl (mp c))), (rm 11, .inl (cI, 20, .inl (mp g2_1)))] rfl dX6_raise_178 ?_
            refine g_iinc (v := nI (i + 1)) (lv' := [(0, .ref mo), (1, .int (nI k)), (2, .int v), (3, .int (nI wn)), (4, .int (nI may)), (5, .int (nI (i + 1))), (6, .int (nI sw)), (7, .int (nI d))]) hC 5 [1, 2, 3, 4, 5, 0, 6, 7] dX6_raise_181 rfl (nI_add _ 1) (by decide) rfl ?_
            refine g_goto hC 72 dX6_raise_184 (by decide) ?_
            refine g_lv [0, 1, 2, 3, 4, 5] (lv2 := [(0, .ref mo), (1, .int (nI k)), (2, .int v), (3, .int (nI wn)), (4, .int (nI may)), (5, .int (nI (i + 1)))]) rfl ?_
            refine ih72 (i + 1) (nI i) (nI d) g2_1 ?_ ?_ ?_ ?_
            · omega
            · have er : raF P nq nd c k v (i + 1) = (match ifPl P nq nd c k i v with | none => raF P nq nd c k v i | some d => match raF P nq nd c k v i with | none => some (i, d) | some (b, m) => if m < d ∨ (d = m ∧ pop5 i < pop5 b) then some (i, d) else some (b, m)) := rfl
              rw [er, hi1, hd2n]; rfl
            · have er : raF P nq nd c k v (i + 1) = (match ifPl P nq nd c k i v with | none => raF P nq nd c k v i | some d => match raF P nq nd c k v i with | none => some (i, d) | some (b, m) => if m < d ∨ (d = m ∧ pop5 i < pop5 b) then some (i, d) else some (b, m)) := rfl
              rw [er, hi1, hd2n]; rfl
            · omega
          exact absurd (Int32.lt_of_lt_of_le (by decide +kernel) (nI_pos' (by omega))) h142f
      refine L72 _ 0 (-9) (-9) g ?_ ?_ ?_ (Nat.lt_succ_self _)
      · omega
      · rfl
      · rfl
    refine g_bipush (v := (-2)) hC dX6_raise_37 (by decide +kernel) ?_
    subst hQ
    refine g_iret (v := -2) hC (g, rw, rx) hr ?_ rfl dX6_raise_39
    rw [raiseR, if_pos hin2, if_neg (fun q => h34f q.2)]
  refine g_iconst (v := (-1)) hC dX6_raise_13 rfl ?_
  subst hQ
  refine g_iret (v := -1) hC (g, rw, rx) hr ?_ rfl dX6_raise_14
  rw [raiseR, if_neg h10f]

abbrev rm_X6_judge : Room := { frames := 5, cells := 0, slots := 0, locals := 115 }
set_option maxRecDepth 100000 in
set_option maxHeartbeats 8000000 in
theorem c_X6_judge (l : Launch) (D : va_G) (cI cZ : ClassId) (mo : Nat) (rm : Nat → Nat) (tl : Nat) (pl : Int32) (np : Nat) (nq : Nat) (nd : Nat) (rt : Int32) (rp : Int32) (rq : Int32) (rd : Int32) (cnt : Nat) (na : Nat) (sd : Int64) (rw : Int32) (rx : Int32) (tm : Int32) (tf : Int32) (sm : Int32) (sf : Int32) (P : Nat → Nat → Nat) (c : Nat → Int32) (g : Nat → Int32) (t : Nat) (a : Int32) (w : Int64) (hW : WFP np nq nd P) (hFr : Fr P nd c t) (ht : t ≤ 200) : CtI l yX6_judge wsX6_judge rm_X6_judge D cI cZ [.ref mo, .int a, .long w] [(mo, o6 rm (nI tl) pl (nI np) (nI nq) (nI nd) rt rp rq rd (nI cnt) (nI na) sd rw rx tm tf sm sf), (rm 1, .inl (cI, 5, .inl (fun k_ => nI (P 0 k_)))), (rm 2, .inl (cI, 5, .inl (fun k_ => nI (P 1 k_)))), (rm 3, .inl (cI, 5, .inl (fun k_ => nI (P 2 k_)))), (rm 4, .inl (cI, 5, .inl (fun k_ => nI (P 3 k_)))), (rm 5, .inl (cI, 5, .inl (fun k_ => nI (P 4 k_)))), (rm 6, .inl (cI, 5, .inl (fun k_ => nI (P 5 k_)))), (rm 10, .inl (cI, 20, .inl (mp c))), (rm 11, .inl (cI, 20, .inl (mp g)))] (fun (r : Int32) (g2 : (Nat → Int32)) => r = judgeR np nq nd P c a w) (fun (g2 : (Nat → Int32)) => [(mo, o6 rm (nI tl) pl (nI np) (nI nq) (nI nd) rt rp rq rd (nI cnt) (nI na) sd rw rx tm tf sm sf), (rm 1, .inl (cI, 5, .inl (fun k_ => nI (P 0 k_)))), (rm 2, .inl (cI, 5, .inl (fun k_ => nI (P 1 k_)))), (rm 3, .inl (cI, 5, .inl (fun k_ => nI (P 2 k_)))), (rm 4, .inl (cI, 5, .inl (fun k_ => nI (P 3 k_)))), (rm 5, .inl (cI, 5, .inl (fun k_ => nI (P 4 k_)))), (rm 6, .inl (cI, 5, .inl (fun k_ => nI (P 5 k_)))), (rm 10, .inl (cI, 20, .inl (mp c))), (rm 11, .inl (cI, 20, .inl (mp g2)))]) 0 0 := by
  refine g_startI (ret := (some .int)) (own := RX6) (lv0 := [(0, .ref mo), (1, .int a), (2, .long w)]) (by decide) rfl rfl (Nat.le_of_ble_eq_true rfl) rfl ?_
  intro p e s m args below meth cd A Q hin hr hQ hC
  have hcw6 : ∀ w ∈ wsX60, w ∈ wsX6_judge := fun _ h => List.mem_cons_of_mem _ (List.mem_append_right _ h)
  have w1 := hC.1.2.2.2.2 (.fieldLink "PluckBrokerModel" 68 "PluckBrokerModel" "thrown" "I") (List.mem_of_getElem? (i := 1) rfl)
  have w2 := hC.1.2.2.2.2 (.constantLong "PluckBrokerModel" 219 4) (List.mem_of_getElem? (i := 2) rfl)
  have w3 := hC.1.2.2.2.2 (.constantLong "PluckBrokerModel" 221 1000) (List.mem_of_getElem? (i := 3) rfl)
  obtain ⟨⟨hnp, hnq, hnd⟩, hq4, hd5⟩ := id hW
  refine g_aload_n hC 0 dX6_judge_0 rfl rfl ?_
  refine g_iconst (v := nI 0) hC dX6_judge_1 rfl ?_
  refine g_put (C := RX6) (T := TX6) (N := 38) (ci := 6) (v := .int (nI 0)) hC hcw6 tyX6 tyX6_ok nmX6 0 rfl rfl 0 (by decide) w1 (fun _ h => h) rfl (tyX6_ok 0 (by decide)) rfl rfl (Nat.le_of_ble_eq_true rfl) [(mo, o6 rm (nI tl) pl (nI np) (nI nq) (nI nd) rt rp rq rd (nI cnt) (nI na) sd rw rx tm tf sm sf), (rm 1, .inl (cI, 5, .inl (fun k_ => nI (P 0 k_)))), (rm 2, .inl (cI, 5, .inl (fun k_ => nI (P 1 k_)))), (rm 3, .inl (cI, 5, .inl (fun k_ => nI (P 2 k_)))), (rm 4, .inl (cI, 5, .inl (fun k_ => nI (P 3 k_)))), (rm 5, .inl (cI, 5, .inl (fun k_ => nI (P 4 k_)))), (rm 6, .inl (cI, 5, .inl (fun k_ => nI (P 5 k_)))), (rm 10, .inl (cI, 20, .inl (mp c))), (rm 11, .inl (cI, 20, .inl (mp g)))] rfl dX6_judge_2 ?_
  refine g_iload_n hC 1 dX6_judge_5 rfl rfl ?_
  refine g_i2l hC dX6_judge_6 rfl ?_
  refine g_lconst (v := (nI 1).toInt64) hC dX6_judge_7 (by decide +kernel) ?_
  refine g_ldc2 (v := 4) hC w2 dX6_judge_8 ?_
  refine g_topl (y := (nI 4).toInt64) (by decide +kernel) ?_
  refine g_callSip (As := [.long a.toInt64, .long ((nI 1).toInt64), .long ((nI 4).toInt64)]) (rest := []) hC (bI ((nI 1) ≤ a ∧ a ≤ (nI 4))) (c_X6_in l D cI cZ a (nI 1) (nI 4)) (va_cwS 3 hC.1.2.2.2.2 gX6_judge_X6_in rfl rfl rfl dS_X6_in ⟨Nat.le_of_ble_eq_true rfl, Nat.le_of_ble_eq_true rfl⟩) rfl rfl (Nat.le_of_ble_eq_true rfl) dX6_judge_11 ⟨Nat.le_of_ble_eq_true rfl, Nat.le_of_ble_eq_true rfl⟩ [] rfl rfl ?_
  refine g_if_eq_b hC 34 dX6_judge_14 (by decide) (fun h14t => ?_) (fun h14f => ?_)
  · refine g_bipush (v := (-2)) hC dX6_judge_34 (by decide +kernel) ?_
    subst hQ
    refine g_iret (v := -2) hC (g) hr ?_ rfl dX6_judge_36
    rw [judgeR, if_neg h14t]
  have okj : okJ a := h14f
  obtain ⟨jn, hj1, hj4, rfl⟩ := ok_n1 (M := 4) (by decide) (Int32.not_lt.mpr okj.1) okj.2
  have hKj : K (nI jn) = jn := K_n (by omega)
  have jr := fun (w : Int64) => jrow (w := w) (p1000 hj4)
  refine g_lload_n hC 2 dX6_judge_17 rfl rfl ?_
  refine g_lconst (v := (nI 0).toInt64) hC dX6_judge_18 (by decide +kernel) ?_
  refine g_topl (y := lN 0) (nI_l (by decide)) ?_
  refine g_ldc2 (v := 1000) hC w3 dX6_judge_19 ?_
  refine g_topl (y := (nI 1000).toInt64) (by decide +kernel) ?_
  refine g_iload_n hC 1 dX6_judge_22 rfl rfl ?_
  refine g_callSlp (As := [.long ((nI 1000).toInt64), .int (nI jn)]) (rest := [.long (lN 0), .long w]) hC (lN (1000 ^ jn)) (c_X6_longPower l D cI cZ jn (by first | assumption | omega)) (va_cwS 2 hC.1.2.2.2.2 gX6_judge_X6_longPower rfl rfl rfl dS_X6_longPower ⟨Nat.le_of_ble_eq_true rfl, Nat.le_of_ble_eq_true rfl⟩) rfl rfl (Nat.le_of_ble_eq_true rfl) dX6_judge_23 ⟨Nat.le_of_ble_eq_true rfl, Nat.le_of_ble_eq_true rfl⟩ [] rfl rfl ?_
  refine g_lconst (v := (nI 1).toInt64) hC dX6_judge_26 (by decide +kernel) ?_
  refine g_topl (y := lN 1) (nI_l (by decide)) ?_
  refine g_lsub hC dX6_judge_27 ?_
  refine g_callSip (As := [.long w, .long (lN 0), .long ((lN (1000 ^ jn)) - (lN 1))]) (rest := []) hC (bI ((lN 0) ≤ w ∧ w ≤ ((lN (1000 ^ jn)) - (lN 1)))) (c_X6_in_l l D cI cZ w (lN 0) ((lN (1000 ^ jn)) - (lN 1))) (va_cwS 3 hC.1.2.2.2.2 gX6_judge_X6_in rfl rfl rfl dS_X6_in ⟨Nat.le_of_ble_eq_true rfl, Nat.le_of_ble_eq_true rfl⟩) rfl rfl (Nat.le_of_ble_eq_true rfl) dX6_judge_28 ⟨Nat.le_of_ble_eq_true rfl, Nat.le_of_ble_eq_true rfl⟩ [] rfl rfl ?_
  refine g_if_ne_b hC 37 dX6_judge_31 (by decide) (fun h31t => ?_) (fun h31f => ?_)
  · have hok : 0 ≤ w ∧ w < lN (1000 ^ jn) := (jr w).mp h31t
    obtain ⟨rh, hrh, rfl⟩ := pk_lOf (x := w) (fun q => absurd hok.1 (fun q2 => by rw [Int64.lt_iff_toInt_lt] at q; rw [Int64.le_iff_toInt_le] at q2; omega))
    refine g_aload_n hC 0 dX6_judge_37 rfl rfl ?_
    refine g_callVv (As := []) (rest := []) hC (c_X6_begin l D cI cZ mo rm tl pl np nq nd rt rp rq rd cnt na sd rw rx tm tf sm sf c g) (cwV 0 hC.1.2.2.2.2 gX6_judge_X6_begin rfl rfl rfl dV_X6_begin ⟨Nat.le_of_ble_eq_true rfl, Nat.le_of_ble_eq_true rfl⟩) rfl rfl rfl rfl (Nat.le_of_ble_eq_true rfl) dX6_judge_38 ⟨Nat.le_of_ble_eq_true rfl, Nat.le_of_ble_eq_true rfl⟩ [0, 7, 8] [1, 2, 3, 4, 5, 6] [6, 0, 1, 2, 3, 4, 5, 7, 8] (fun (_ : Unit) => [(mo, o6 rm (nI tl) pl (nI np) (nI nq) (nI nd) rt rp rq rd (nI cnt) (nI na) sd rw rx tm tf sm sf), (rm 1, .inl (cI, 5, .inl (fun k_ => nI (P 0 k_)))), (rm 2, .inl (cI, 5, .inl (fun k_ => nI (P 1 k_)))), (rm 3, .inl (cI, 5, .inl (fun k_ => nI (P 2 k_)))), (rm 4, .inl (cI, 5, .inl (fun k_ => nI (P 3 k_)))), (rm 5, .inl (cI, 5, .inl (fun k_ => nI (P 4 k_)))), (rm 6, .inl (cI, 5, .inl (fun k_ => nI (P 5 k_)))), (rm 10, .inl (cI, 20, .inl (mp c))), (rm 11, .inl (cI, 20, .inl (mp c)))]) rfl rfl rfl (fun _ => rfl) (fun z38 hp38 => ?_)
    refine g_is (ws2 := [(mo, o6 rm (nI tl) pl (nI np) (nI nq) (nI nd) rt rp rq rd (nI cnt) (nI na) sd rw rx tm tf sm sf), (rm 1, .inl (cI, 5, .inl (fun k_ => nI (P 0 k_)))), (rm 2, .inl (cI, 5, .inl (fun k_ => nI (P 1 k_)))), (rm 3, .inl (cI, 5, .inl (fun k_ => nI (P 2 k_)))), (rm 4, .inl (cI, 5, .inl (fun k_ => nI (P 3 k_)))), (rm 5, .inl (cI, 5, .inl (fun k_ => nI (P 4 k_)))), (rm 6, .inl (cI, 5, .inl (fun k_ => nI (P 5 k_)))), (rm 10, .inl (cI, 20, .inl (mp c))), (rm 11, .inl (cI, 20, .inl (mp c)))]) (lv2 := [(0, .ref mo), (1, .int (nI jn)), (2, .long (lN rh))]) (st2 := []) rfl rfl rfl ?_
    refine g_iconst (v := nI 0) hC dX6_judge_41 rfl ?_
    refine g_istore (lv' := [(0, .ref mo), (1, .int (nI jn)), (2, .long (lN rh)), (4, .int (nI 0))]) hC [1, 2, 3, 0] dX6_judge_42 (by decide) rfl ?_
    have L44 : ∀ (n : Nat) (k : Nat) (gg : Nat → Int32), (k ≤ jn) → (judF P np nq nd rh jn jn 0 c = judF P np nq nd rh jn (jn - k) k gg) → (∃ t2, t2 ≤ t + k ∧ Fr P nd gg t2) → jn - k < n → G p l e rm_X6_judge s m args below meth cd D A 0 0 Q 5 [(mo, o6 rm (nI tl) pl (nI np) (nI nq) (nI nd) rt rp rq rd (nI cnt) (nI na) sd rw rx tm tf sm sf), (rm 1, .inl (cI, 5, .inl (fun k_ => nI (P 0 k_)))), (rm 2, .inl (cI, 5, .inl (fun k_ => nI (P 1 k_)))), (rm 3, .inl (cI, 5, .inl (fun k_ => nI (P 2 k_)))), (rm 4, .inl (cI, 5, .inl (fun k_ => nI (P 3 k_)))), (rm 5, .inl (cI, 5, .inl (fun k_ => nI (P 4 k_)))), (rm 6, .inl (cI, 5, .inl (fun k_ => nI (P 5 k_)))), (rm 10, .inl (cI, 20, .inl (mp c))), (rm 11, .inl (cI, 20, .inl (mp gg)))] 44 [(0, .ref mo), (1, .int (nI jn)), (2, .long (lN rh)), (4, .int (nI k))] [] := by
      intro n
      induction n with
      | zero => intro k gg hk he hF2 hn; exact absurd hn (Nat.not_lt_zero _)
      | succ n ih44 =>
        intro k gg hk he hF2 hn
        refine g_iload hC 3 dX6_judge_44 rfl ?_
        refine g_iload_n hC 1 dX6_judge_46 rfl rfl ?_
        refine g_icmp_ge_n (a := k) (b := jn) hC (by omega) (by omega) 85 dX6_judge_47 (by decide) (fun h47t => ?_) (fun h47f => ?_)
        · refine g_bipush (v := (-9)) hC dX6_judge_85 (by decide +kernel) ?_
          subst hQ
          refine g_iret (v := -9) hC (gg) hr ?_ rfl dX6_judge_87
          have ek : k = jn := by omega
          rw [judgeR, if_pos okj, hKj, if_pos hok, KL_n hrh, he, show jn - k = 0 by omega]; rfl
        refine g_aload_n hC 0 dX6_judge_50 rfl rfl ?_
        refine g_lload_n hC 2 dX6_judge_51 rfl rfl ?_
        refine g_ldc2 (v := 1000) hC w3 dX6_judge_52 ?_
        refine g_topl (y := (nI 1000).toInt64) (by decide +kernel) ?_
        refine g_iload_n hC 1 dX6_judge_55 rfl rfl ?_
        refine g_iconst (v := nI 1) hC dX6_judge_56 rfl ?_
        refine g_isub_n (a := jn) (b := 1) hC (by omega) dX6_judge_57 ?_
        refine g_iload hC 3 dX6_judge_58 rfl ?_
        refine g_isub_n (a := (jn - 1)) (b := k) hC (by omega) dX6_judge_60 ?_
        refine g_callSlp (As := [.long ((nI 1000).toInt64), .int (nI (jn - 1 - k))]) (rest := [.long (lN rh), .ref mo]) hC (lN (1000 ^ (jn - 1 - k))) (c_X6_longPower l D cI cZ (jn - 1 - k) (by first | assumption | omega)) (va_cwS 2 hC.1.2.2.2.2 gX6_judge_X6_longPower rfl rfl rfl dS_X6_longPower ⟨Nat.le_of_ble_eq_true rfl, Nat.le_of_ble_eq_true rfl⟩) rfl rfl (Nat.le_of_ble_eq_true rfl) dX6_judge_61 ⟨Nat.le_of_ble_eq_true rfl, Nat.le_of_ble_eq_true rfl⟩ [] rfl rfl ?_
        obtain ⟨un, hun⟩ : ∃ x, x = 1000 ^ (jn - 1 - k) := ⟨_, rfl⟩
        have hun1 := p1000 (k := jn - 1 - k) (by omega)
        rw [← hun] at hun1
        refine g_topl (y := lN un) (by rw [hun]) ?_
        refine g_ldiv (x := lN rh) (y := lN un) hC dX6_judge_64 (fun q => (by omega : un ≠ 0) ((pk_lEQ (a := un) (b := 0) (by omega) (by decide)).mp q)) ?_
        refine g_topl (y := lN (rh / un)) (pk_lDiv (by omega) (by omega) (by omega)) ?_
        refine g_ldc2 (v := 1000) hC w3 dX6_judge_65 ?_
        refine g_topl (y := (nI 1000).toInt64) (by decide +kernel) ?_
        refine g_topl (y := lN 1000) (nI_l (by decide)) ?_
        refine g_lrem (x := lN (rh / un)) (y := lN 1000) hC dX6_judge_68 (fun q => (by first | omega | (have := Nat.div_le_self rh un; omega) : 1000 ≠ 0) ((pk_lEQ (a := 1000) (b := 0) (by first | omega | (have := Nat.div_le_self rh un; omega)) (by decide)).mp q)) ?_
        refine g_topl (y := lN ((rh / un) % 1000)) (pk_lRem (by first | omega | (have := Nat.div_le_self rh un; omega)) (by first | omega | (have := Nat.div_le_self rh un; omega)) (by first | omega | (have := Nat.div_le_self rh un; omega))) ?_
        refine g_l2i (v := nI ((rh / un) % 1000)) hC dX6_judge_69 (lN_i _) ?_
        obtain ⟨t2, ht2, hF3⟩ := hF2
        obtain ⟨t0, ht0⟩ : ∃ x, x = rh / un % 1000 := ⟨_, rfl⟩
        have ht1 : t0 < 1000 := by rw [ht0]; exact Nat.mod_lt _ (by decide)
        refine g_top (y := nI t0) (by rw [ht0]) ?_
        refine g_callVi (As := [.int (nI t0)]) (rest := []) hC (c_X6_does l D cI cZ mo rm tl pl np nq nd rt rp rq rd cnt na sd rw rx tm tf sm sf P gg t0 t2 (by first | assumption | omega) ht1 hF3 (by omega)) (cwV 1 hC.1.2.2.2.2 gX6_judge_X6_does rfl rfl rfl dV_X6_does ⟨Nat.le_of_ble_eq_true rfl, Nat.le_of_ble_eq_true rfl⟩) rfl rfl rfl rfl (Nat.le_of_ble_eq_true rfl) dX6_judge_70 ⟨Nat.le_of_ble_eq_true rfl, Nat.le_of_ble_eq_true rfl⟩ [0, 1, 2, 3, 4, 5, 6, 8] [7] [1, 2, 3, 4, 5, 6, 7, 0, 8] (fun (_ : Unit) => [(mo, o6 rm (nI tl) pl (nI np) (nI nq) (nI nd) rt rp rq rd (nI cnt) (nI na) sd rw rx tm tf sm sf), (rm 1, .inl (cI, 5, .inl (fun k_ => nI (P 0 k_)))), (rm 2, .inl (cI, 5, .inl (fun k_ => nI (P 1 k_)))), (rm 3, .inl (cI, 5, .inl (fun k_ => nI (P 2 k_)))), (rm 4, .inl (cI, 5, .inl (fun k_ => nI (P 3 k_)))), (rm 5, .inl (cI, 5, .inl (fun k_ => nI (P 4 k_)))), (rm 6, .inl (cI, 5, .inl (fun k_ => nI (P 5 k_)))), (rm 10, .inl (cI, 20, .inl (mp c))), (rm 11, .inl (cI, 20, .inl (mp (doF P np nq nd gg (t0 / 100) (t0 / 10 % 10) (t0 % 10)))))]) rfl rfl rfl (fun _ => rfl) (fun r70 z70 hp70 => ?_)
        try dsimp only at hp70
        subst hp70
        refine g_is (ws2 := [(mo, o6 rm (nI tl) pl (nI np) (nI nq) (nI nd) rt rp rq rd (nI cnt) (nI na) sd rw rx tm tf sm sf), (rm 1, .inl (cI, 5, .inl (fun k_ => nI (P 0 k_)))), (rm 2, .inl (cI, 5, .inl (fun k_ => nI (P 1 k_)))), (rm 3, .inl (cI, 5, .inl (fun k_ => nI (P 2 k_)))), (rm 4, .inl (cI, 5, .inl (fun k_ => nI (P 3 k_)))), (rm 5, .inl (cI, 5, .inl (fun k_ => nI (P 4 k_)))), (rm 6, .inl (cI, 5, .inl (fun k_ => nI (P 5 k_)))), (rm 10, .inl (cI, 20, .inl (mp c))), (rm 11, .inl (cI, 20, .inl (mp (doF P np nq nd gg (t0 / 100) (t0 / 10 % 10) (t0 % 10)))))]) (lv2 := [(0, .ref mo), (1, .int (nI jn)), (2, .long (lN rh)), (4, .int (nI k))]) (st2 := [.int (bI (doOK P np nq nd gg (t0 / 100) (t0 / 10 % 10) (t0 % 10)))]) rfl rfl rfl ?_
        refine g_if_ne_b hC 79 dX6_judge_73 (by decide) (fun h73t => ?_) (fun h73f => ?_)
        · refine g_iinc (v := nI (k + 1)) (lv' := [(0, .ref mo), (1, .int (nI jn)), (2, .long (lN rh)), (4, .int (nI (k + 1)))]) hC 3 [1, 2, 3, 0] dX6_judge_79 rfl (nI_add _ 1) (by decide) rfl ?_
          refine g_goto hC 44 dX6_judge_82 (by decide) ?_
          refine ih44 (k + 1) (doF P np nq nd gg (t0 / 100) (t0 / 10 % 10) (t0 % 10)) ?_ ?_ ?_ ?_
          · omega
          · rw [he, show jn - k = (jn - (k + 1)) + 1 by omega]
            show (if stB P np nq nd gg (figT rh jn k) = true then _ else _) = _
            have eT : figT rh jn k = t0 := by unfold figT; rw [w1000 (by omega), ← hun, ← ht0]
            rw [eT, if_pos (show stB P np nq nd gg t0 = true from decide_eq_true h73t)]; rfl
          · obtain ⟨t3, h3, h4⟩ := Fr_do hW hF3 (by omega) (t0 / 100) (t0 / 10 % 10) (t0 % 10)
            exact ⟨t3, by omega, h4⟩
          · omega
        refine g_iload hC 3 dX6_judge_76 rfl ?_
        subst hQ
        refine g_iret (v := nI k) hC (doF P np nq nd gg (t0 / 100) (t0 / 10 % 10) (t0 % 10)) hr ?_ rfl dX6_judge_78
        rw [judgeR, if_pos okj, hKj, if_pos hok, KL_n hrh, he, show jn - k = (jn - (k + 1)) + 1 by omega]
        show _ = (if stB P np nq nd gg (figT rh jn k) = true then _ else nI k)
        have eT : figT rh jn k = t0 := by unfold figT; rw [w1000 (by omega), ← hun, ← ht0]
        rw [eT, if_neg (show ¬ stB P np nq nd gg t0 = true from fun q => h73f (of_decide_eq_true q))]
    refine L44 _ 0 c ?_ ?_ ?_ (Nat.lt_succ_self _)
    · omega
    · rfl
    · exact ⟨t, by omega, hFr⟩
  refine g_bipush (v := (-2)) hC dX6_judge_34 (by decide +kernel) ?_
  subst hQ
  refine g_iret (v := -2) hC (g) hr ?_ rfl dX6_judge_36
  rw [judgeR, if_pos okj, hKj, if_neg (fun q => h31f ((jr w).mpr q))]

abbrev rm_X6_years : Room := { frames := 5, cells := 0, slots := 0, locals := 115 }
set_option maxRecDepth 100000 in
set_option maxHeartbeats 16000000 in
theorem c_X6_years (l : Launch) (D : va_G) (cI cZ : ClassId) (mo : Nat) (rm : Nat → Nat) (tl : Nat) (pl : Int32) (np : Nat) (nq : Nat) (nd : Nat) (rt : Int32) (rp : Int32) (rq : Int32) (rd : Int32) (cnt : Nat) (na : Nat) (sd : Int64) (rw : Int32) (rx : Int32) (tm : Int32) (tf : Int32) (sm : Int32) (sf : Int32) (P : Nat → Nat → Nat) (c : Nat → Int32) (g : Nat → Int32) (t : Nat) (a : Int32) (hW : WFP np nq nd P) (hFr : Fr P nd c t) (ht : t ≤ 200) : CtI l yX6_years wsX6_years rm_X6_years D cI cZ [.ref mo, .int a] [(mo, o6 rm (nI tl) pl (nI np) (nI nq) (nI nd) rt rp rq rd (nI cnt) (nI na) sd rw rx tm tf sm sf), (rm 1, .inl (cI, 5, .inl (fun k_ => nI (P 0 k_)))), (rm 2, .inl (cI, 5, .inl (fun k_ => nI (P 1 k_)))), (rm 3, .inl (cI, 5, .inl (fun k_ => nI (P 2 k_)))), (rm 4, .inl (cI, 5, .inl (fun k_ => nI (P 3 k_)))), (rm 5, .inl (cI, 5, .inl (fun k_ => nI (P 4 k_)))), (rm 6, .inl (cI, 5, .inl (fun k_ => nI (P 5 k_)))), (rm 10, .inl (cI, 20, .inl (mp c))), (rm 11, .inl (cI, 20, .inl (mp g)))] (fun (r : Int32) (z : (Nat → Int32) × Int64) => match z with | (g2, sd2) => r = yearsR np nq nd P c sd a ∧ sd2 = yearsH sd a) (fun (z : (Nat → Int32) × Int64) => match z with | (g2, sd2) => [(mo, o6 rm (nI tl) pl (nI np) (nI nq) (nI nd) rt rp rq rd (nI cnt) (nI na) sd2 rw rx tm tf sm sf), (rm 1, .inl (cI, 5, .inl (fun k_ => nI (P 0 k_)))), (rm 2, .inl (cI, 5, .inl (fun k_ => nI (P 1 k_)))), (rm 3, .inl (cI, 5, .inl (fun k_ => nI (P 2 k_)))), (rm 4, .inl (cI, 5, .inl (fun k_ => nI (P 3 k_)))), (rm 5, .inl (cI, 5, .inl (fun k_ => nI (P 4 k_)))), (rm 6, .inl (cI, 5, .inl (fun k_ => nI (P 5 k_)))), (rm 10, .inl (cI, 20, .inl (mp c))), (rm 11, .inl (cI, 20, .inl (mp g2)))]) 0 0 := by
  refine g_startI (ret := (some .int)) (own := RX6) (lv0 := [(0, .ref mo), (1, .int a)]) (by decide) rfl rfl (Nat.le_of_ble_eq_true rfl) rfl ?_
  intro p e s m args below meth cd A Q hin hr hQ hC
  have hcw6 : ∀ w ∈ wsX60, w ∈ wsX6_years := fun _ h => List.mem_cons_of_mem _ (List.mem_append_right _ h)
  have w1 := hC.1.2.2.2.2 (.fieldLink "PluckBrokerModel" 68 "PluckBrokerModel" "thrown" "I") (List.mem_of_getElem? (i := 1) rfl)
  have w2 := hC.1.2.2.2.2 (.constantLong "PluckBrokerModel" 242 30) (List.mem_of_getElem? (i := 2) rfl)
  have w3 := hC.1.2.2.2.2 (.fieldLink "PluckBrokerModel" 266 "PluckBrokerModel" "seed" "J") (List.mem_of_getElem? (i := 3) rfl)
  have w4 := hC.1.2.2.2.2 (.constantLong "PluckBrokerModel" 270 6364136223846793005) (List.mem_of_getElem? (i := 4) rfl)
  have w5 := hC.1.2.2.2.2 (.constantLong "PluckBrokerModel" 272 1442695040888963407) (List.mem_of_getElem? (i := 5) rfl)
  have w6 := hC.1.2.2.2.2 (.constantLong "PluckBrokerModel" 274 24) (List.mem_of_getElem? (i := 6) rfl)
  have w7 := hC.1.2.2.2.2 (.fieldLink "PluckBrokerModel" 72 "PluckBrokerModel" "persons" "I") (List.mem_of_getElem? (i := 7) rfl)
  have w8 := hC.1.2.2.2.2 (.fieldLink "PluckBrokerModel" 43 "PluckBrokerModel" "trial" "[I") (List.mem_of_getElem? (i := 8) rfl)
  obtain ⟨⟨hnp, hnq, hnd⟩, hq4, hd5⟩ := id hW
  refine g_aload_n hC 0 dX6_years_0 rfl rfl ?_
  refine g_iconst (v := nI 0) hC dX6_years_1 rfl ?_
  refine g_put (C := RX6) (T := TX6) (N := 38) (ci := 6) (v := .int (nI 0)) hC hcw6 tyX6 tyX6_ok nmX6 0 rfl rfl 0 (by decide) w1 (fun _ h => h) rfl (tyX6_ok 0 (by decide)) rfl rfl (Nat.le_of_ble_eq_true rfl) [(mo, o6 rm (nI tl) pl (nI np) (nI nq) (nI nd) rt rp rq rd (nI cnt) (nI na) sd rw rx tm tf sm sf), (rm 1, .inl (cI, 5, .inl (fun k_ => nI (P 0 k_)))), (rm 2, .inl (cI, 5, .inl (fun k_ => nI (P 1 k_)))), (rm 3, .inl (cI, 5, .inl (fun k_ => nI (P 2 k_)))), (rm 4, .inl (cI, 5, .inl (fun k_ => nI (P 3 k_)))), (rm 5, .inl (cI, 5, .inl (fun k_ => nI (P 4 k_)))), (rm 6, .inl (cI, 5, .inl (fun k_ => nI (P 5 k_)))), (rm 10, .inl (cI, 20, .inl (mp c))), (rm 11, .inl (cI, 20, .inl (mp g)))] rfl dX6_years_2 ?_
  refine g_iload_n hC 1 dX6_years_5 rfl rfl ?_
  refine g_i2l hC dX6_years_6 rfl ?_
  refine g_lconst (v := (nI 1).toInt64) hC dX6_years_7 (by decide +kernel) ?_
  refine g_ldc2 (v := 30) hC w2 dX6_years_8 ?_
  refine g_topl (y := (nI 30).toInt64) (by decide +kernel) ?_
  refine g_callSip (As := [.long a.toInt64, .long ((nI 1).toInt64), .long ((nI 30).toInt64)]) (rest := []) hC (bI ((nI 1) ≤ a ∧ a ≤ (nI 30))) (c_X6_in l D cI cZ a (nI 1) (nI 30)) (va_cwS 3 hC.1.2.2.2.2 gX6_years_X6_in rfl rfl rfl dS_X6_in ⟨Nat.le_of_ble_eq_true rfl, Nat.le_of_ble_eq_true rfl⟩) rfl rfl (Nat.le_of_ble_eq_true rfl) dX6_years_11 ⟨Nat.le_of_ble_eq_true rfl, Nat.le_of_ble_eq_true rfl⟩ [] rfl rfl ?_
  refine g_if_ne_b hC 20 dX6_years_14 (by decide) (fun h14t => ?_) (fun h14f => ?_)
  · have okj : okY a := h14t
    obtain ⟨jn, hj1, hj4, rfl⟩ := ok_n1 (M := 30) (by decide) (Int32.not_lt.mpr okj.1) okj.2
    have hKj : K (nI jn) = jn := K_n (by omega)
    refine g_aload_n hC 0 dX6_years_20 rfl rfl ?_
    refine g_callVv (As := []) (rest := []) hC (c_X6_begin l D cI cZ mo rm tl pl np nq nd rt rp rq rd cnt na sd rw rx tm tf sm sf c g) (cwV 0 hC.1.2.2.2.2 gX6_years_X6_begin rfl rfl rfl dV_X6_begin ⟨Nat.le_of_ble_eq_true rfl, Nat.le_of_ble_eq_true rfl⟩) rfl rfl rfl rfl (Nat.le_of_ble_eq_true rfl) dX6_years_21 ⟨Nat.le_of_ble_eq_true rfl, Nat.le_of_ble_eq_true rfl⟩ [0, 7, 8] [1, 2, 3, 4, 5, 6] [6, 0, 1, 2, 3, 4, 5, 7, 8] (fun (_ : Unit) => [(mo, o6 rm (nI tl) pl (nI np) (nI nq) (nI nd) rt rp rq rd (nI cnt) (nI na) sd rw rx tm tf sm sf), (rm 1, .inl (cI, 5, .inl (fun k_ => nI (P 0 k_)))), (rm 2, .inl (cI, 5, .inl (fun k_ => nI (P 1 k_)))), (rm 3, .inl (cI, 5, .inl (fun k_ => nI (P 2 k_)))), (rm 4, .inl (cI, 5, .inl (fun k_ => nI (P 3 k_)))), (rm 5, .inl (cI, 5, .inl (fun k_ => nI (P 4 k_)))), (rm 6, .inl (cI, 5, .inl (fun k_ => nI (P 5 k_)))), (rm 10, .inl (cI, 20, .inl (mp c))), (rm 11, .inl (cI, 20, .inl (mp c)))]) rfl rfl rfl (fun _ => rfl) (fun z21 hp21 => ?_)
    refine g_is (ws2 := [(mo, o6 rm (nI tl) pl (nI np) (nI nq) (nI nd) rt rp rq rd (nI cnt) (nI na) sd rw rx tm tf sm sf), (rm 1, .inl (cI, 5, .inl (fun k_ => nI (P 0 k_)))), (rm 2, .inl (cI, 5, .inl (fun k_ => nI (P 1 k_)))), (rm 3, .inl (cI, 5, .inl (fun k_ => nI (P 2 k_)))), (rm 4, .inl (cI, 5, .inl (fun k_ => nI (P 3 k_)))), (rm 5, .inl (cI, 5, .inl (fun k_ => nI (P 4 k_)))), (rm 6, .inl (cI, 5, .inl (fun k_ => nI (P 5 k_)))), (rm 10, .inl (cI, 20, .inl (mp c))), (rm 11, .inl (cI, 20, .inl (mp c)))]) (lv2 := [(0, .ref mo), (1, .int (nI jn))]) (st2 := []) rfl rfl rfl ?_
    refine g_iconst (v := nI 0) hC dX6_years_24 rfl ?_
    refine g_istore_n (lv' := [(0, .ref mo), (1, .int (nI jn)), (2, .int (nI 0))]) hC [1, 2, 0] dX6_years_25 rfl (by decide) rfl ?_
    refine g_iconst (v := nI 0) hC dX6_years_26 rfl ?_
    refine g_istore_n (lv' := [(0, .ref mo), (1, .int (nI jn)), (2, .int (nI 0)), (3, .int (nI 0))]) hC [1, 2, 3, 0] dX6_years_27 rfl (by decide) rfl ?_
    have L28 : ∀ (n : Nat) (i : Nat) (x : Int32) (gg : Nat → Int32) (ch1 : Int64), (i ≤ jn) → (ch1 = yrH sd i) → (gg = yrG P np nq nd c sd i) → (x = yrS P np nq nd c sd i) → (∃ t2, t2 ≤ t + i ∧ Fr P nd gg t2) → jn - i < n → G p l e rm_X6_years s m args below meth cd D A 0 0 Q 6 [(mo, o6 rm (nI tl) pl (nI np) (nI nq) (nI nd) rt rp rq rd (nI cnt) (nI na) ch1 rw rx tm tf sm sf), (rm 1, .inl (cI, 5, .inl (fun k_ => nI (P 0 k_)))), (rm 2, .inl (cI, 5, .inl (fun k_ => nI (P 1 k_)))), (rm 3, .inl (cI, 5, .inl (fun k_ => nI (P 2 k_)))), (rm 4, .inl (cI, 5, .inl (fun k_ => nI (P 3 k_)))), (rm 5, .inl (cI, 5, .inl (fun k_ => nI (P 4 k_)))), (rm 6, .inl (cI, 5, .inl (fun k_ => nI (P 5 k_)))), (rm 10, .inl (cI, 20, .inl (mp c))), (rm 11, .inl (cI, 20, .inl (mp gg)))] 28 [(0, .ref mo), (1, .int (nI jn)), (2, .int x), (3, .int (nI i))] [] := by
      intro n
      induction n with
      | zero => intro i x gg ch1 hi hch hgg hx hF2 hn; exact absurd hn (Nat.not_lt_zero _)
      | succ n ih28 =>
        intro i x gg ch1 hi hch hgg hx hF2 hn
        refine g_iload_n hC 3 dX6_years_28 rfl rfl ?_
        refine g_iload_n hC 1 dX6_years_29 rfl rfl ?_
        refine g_icmp_ge_n (a := i) (b := jn) hC (by omega) (by omega) 157 dX6_years_30 (by decide) (fun h30t => ?_) (fun h30f => ?_)
        · refine g_iload_n hC 2 dX6_years_157 rfl rfl ?_
          subst hQ
          refine g_iret (v := x) hC (gg, ch1) hr ?_ rfl dX6_years_158
          have ei : i = jn := by omega
          rw [ei] at hx hch
          rw [yearsR, yearsH, if_pos okj, if_pos okj, hKj]; exact ⟨hx, hch⟩
        refine g_aload_n hC 0 dX6_years_33 rfl rfl ?_
        refine g_aload_n hC 0 dX6_years_34 rfl rfl ?_
        refine g_get (C := RX6) (T := TX6) (N := 38) (ci := 6) (v := .long ch1) hC hcw6 0 rfl rfl 29 (by decide) w3 (fun _ h => h) rfl dX6_years_35 ?_
        refine g_ldc2 (v := 6364136223846793005) hC w4 dX6_years_38 ?_
        refine g_lmul hC dX6_years_41 ?_
        refine g_ldc2 (v := 1442695040888963407) hC w5 dX6_years_42 ?_
        refine g_ladd hC dX6_years_45 ?_
        refine g_put (C := RX6) (T := TX6) (N := 38) (ci := 6) (v := .long ((ch1 * 6364136223846793005) + 1442695040888963407)) hC hcw6 tyX6 tyX6_ok nmX6 0 rfl rfl 29 (by decide) w3 (fun _ h => h) rfl (tyX6_ok 29 (by decide)) rfl rfl (Nat.le_of_ble_eq_true rfl) [(mo, o6 rm (nI tl) pl (nI np) (nI nq) (nI nd) rt rp rq rd (nI cnt) (nI na) ((ch1 * 6364136223846793005) + 1442695040888963407) rw rx tm tf sm sf), (rm 1, .inl (cI, 5, .inl (fun k_ => nI (P 0 k_)))), (rm 2, .inl (cI, 5, .inl (fun k_ => nI (P 1 k_)))), (rm 3, .inl (cI, 5, .inl (fun k_ => nI (P 2 k_)))), (rm 4, .inl (cI, 5, .inl (fun k_ => nI (P 3 k_)))), (rm 5, .inl (cI, 5, .inl (fun k_ => nI (P 4 k_)))), (rm 6, .inl (cI, 5, .inl (fun k_ => nI (P 5 k_)))), (rm 10, .inl (cI, 20, .inl (mp c))), (rm 11, .inl (cI, 20, .inl (mp gg)))] rfl dX6_years_46 ?_
        refine g_aload_n hC 0 dX6_years_49 rfl rfl ?_
        refine g_get (C := RX6) (T := TX6) (N := 38) (ci := 6) (v := .long ((ch1 * 6364136223846793005) + 1442695040888963407)) hC hcw6 0 rfl rfl 29 (by decide) w3 (fun _ h => h) rfl dX6_years_50 ?_
        refine g_bipush (v := nI 33) hC dX6_years_53 (by decide +kernel) ?_
        refine g_lushr hC dX6_years_55 rfl ?_
        refine g_topl (y := lN ((ch1 * 6364136223846793005 + 1442695040888963407).toBitVec.toNat / 2 ^ 33)) (chance_t _) ?_
        refine g_ldc2 (v := 24) hC w6 dX6_years_56 ?_
        refine g_topl (y := (nI 24).toInt64) (by decide +kernel) ?_
        refine g_topl (y := lN 24) (nI_l (by decide)) ?_
        refine g_lrem (x := lN ((ch1 * 6364136223846793005 + 1442695040888963407).toBitVec.toNat / 2 ^ 33)) (y := lN 24) hC dX6_years_59 (fun q => (by have := (ch1 * 6364136223846793005 + 1442695040888963407 : Int64).toBitVec.isLt; omega : 24 ≠ 0) ((pk_lEQ (a := 24) (b := 0) (by have := (ch1 * 6364136223846793005 + 1442695040888963407 : Int64).toBitVec.isLt; omega) (by decide)).mp q)) ?_
        refine g_topl (y := lN (((ch1 * 6364136223846793005 + 1442695040888963407).toBitVec.toNat / 2 ^ 33) % 24)) (pk_lRem (by have := (ch1 * 6364136223846793005 + 1442695040888963407 : Int64).toBitVec.isLt; omega) (by have := (ch1 * 6364136223846793005 + 1442695040888963407 : Int64).toBitVec.isLt; omega) (by have := (ch1 * 6364136223846793005 + 1442695040888963407 : Int64).toBitVec.isLt; omega)) ?_
        refine g_l2i (v := nI (((ch1 * 6364136223846793005 + 1442695040888963407).toBitVec.toNat / 2 ^ 33) % 24)) hC dX6_years_60 (lN_i _) ?_
        obtain ⟨t2, ht2, hF3⟩ := hF2
        obtain ⟨x0, hx0⟩ : ∃ x, x = (ch1 * 6364136223846793005 + 1442695040888963407).toBitVec.toNat / 2 ^ 33 % 24 := ⟨_, rfl⟩
        have hx24 : x0 < 24 := by rw [hx0]; exact Nat.mod_lt _ (by decide)
        have hch1 := chT_lt x0 hx24
        refine g_top (y := nI x0) (by rw [hx0]) ?_
        refine g_istore (lv' := [(0, .ref mo), (1, .int (nI jn)), (2, .int x), (3, .int (nI i)), (4, .int (nI x0))]) hC [1, 2, 3, 4, 0] dX6_years_61 (by decide) rfl ?_
        have J117 : G p l e rm_X6_years s m args below meth cd D A 0 0 Q 6 [(mo, o6 rm (nI tl) pl (nI np) (nI nq) (nI nd) rt rp rq rd (nI cnt) (nI na) ((ch1 * 6364136223846793005) + 1442695040888963407) rw rx tm tf sm sf), (rm 1, .inl (cI, 5, .inl (fun k_ => nI (P 0 k_)))), (rm 2, .inl (cI, 5, .inl (fun k_ => nI (P 1 k_)))), (rm 3, .inl (cI, 5, .inl (fun k_ => nI (P 2 k_)))), (rm 4, .inl (cI, 5, .inl (fun k_ => nI (P 3 k_)))), (rm 5, .inl (cI, 5, .inl (fun k_ => nI (P 4 k_)))), (rm 6, .inl (cI, 5, .inl (fun k_ => nI (P 5 k_)))), (rm 10, .inl (cI, 20, .inl (mp c))), (rm 11, .inl (cI, 20, .inl (mp gg)))] 117 [(0, .ref mo), (1, .int (nI jn)), (2, .int x), (3, .int (nI i)), (4, .int (nI x0))] [.int (nI (chT x0)), .ref mo] := by
          refine g_callVi (As := [.int (nI (chT x0))]) (rest := []) hC (c_X6_does l D cI cZ mo rm tl pl np nq nd rt rp rq rd cnt na ((ch1 * 6364136223846793005) + 1442695040888963407) rw rx tm tf sm sf P gg (chT x0) t2 (by first | assumption | omega) hch1 hF3 (by omega)) (cwV 1 hC.1.2.2.2.2 gX6_years_X6_does rfl rfl rfl dV_X6_does ⟨Nat.le_of_ble_eq_true rfl, Nat.le_of_ble_eq_true rfl⟩) rfl rfl rfl rfl (Nat.le_of_ble_eq_true rfl) dX6_years_117 ⟨Nat.le_of_ble_eq_true rfl, Nat.le_of_ble_eq_true rfl⟩ [0, 1, 2, 3, 4, 5, 6, 8] [7] [1, 2, 3, 4, 5, 6, 7, 0, 8] (fun (_ : Unit) => [(mo, o6 rm (nI tl) pl (nI np) (nI nq) (nI nd) rt rp rq rd (nI cnt) (nI na) ((ch1 * 6364136223846793005) + 1442695040888963407) rw rx tm tf sm sf), (rm 1, .inl (cI, 5, .inl (fun k_ => nI (P 0 k_)))), (rm 2, .inl (cI, 5, .inl (fun k_ => nI (P 1 k_)))), (rm 3, .inl (cI, 5, .inl (fun k_ => nI (P 2 k_)))), (rm 4, .inl (cI, 5, .inl (fun k_ => nI (P 3 k_)))), (rm 5, .inl (cI, 5, .inl (fun k_ => nI (P 4 k_)))), (rm 6, .inl (cI, 5, .inl (fun k_ => nI (P 5 k_)))), (rm 10, .inl (cI, 20, .inl (mp c))), (rm 11, .inl (cI, 20, .inl (mp (doF P np nq nd gg ((chT x0) / 100) ((chT x0) / 10 % 10) ((chT x0) % 10)))))]) rfl rfl rfl (fun _ => rfl) (fun r117 z117 hp117 => ?_)
          try dsimp only at hp117
          subst hp117
          refine g_is (ws2 := [(mo, o6 rm (nI tl) pl (nI np) (nI nq) (nI nd) rt rp rq rd (nI cnt) (nI na) ((ch1 * 6364136223846793005) + 1442695040888963407) rw rx tm tf sm sf), (rm 1, .inl (cI, 5, .inl (fun k_ => nI (P 0 k_)))), (rm 2, .inl (cI, 5, .inl (fun k_ => nI (P 1 k_)))), (rm 3, .inl (cI, 5, .inl (fun k_ => nI (P 2 k_)))), (rm 4, .inl (cI, 5, .inl (fun k_ => nI (P 3 k_)))), (rm 5, .inl (cI, 5, .inl (fun k_ => nI (P 4 k_)))), (rm 6, .inl (cI, 5, .inl (fun k_ => nI (P 5 k_)))), (rm 10, .inl (cI, 20, .inl (mp c))), (rm 11, .inl (cI, 20, .inl (mp (doF P np nq nd gg ((chT x0) / 100) ((chT x0) / 10 % 10) ((chT x0) % 10)))))]) (lv2 := [(0, .ref mo), (1, .int (nI jn)), (2, .int x), (3, .int (nI i)), (4, .int (nI x0))]) (st2 := [.int (bI (doOK P np nq nd gg ((chT x0) / 100) ((chT x0) / 10 % 10) ((chT x0) % 10)))]) rfl rfl rfl ?_
          have ecell : (mp (doF P np nq nd gg ((chT x0) / 100) ((chT x0) / 10 % 10) ((chT x0) % 10))) = (mp (chanceF P np nq nd gg x0)) := by rw [chT_do x0 hx24]
          refine g_ws (ws2 := [(mo, o6 rm (nI tl) pl (nI np) (nI nq) (nI nd) rt rp rq rd (nI cnt) (nI na) ((ch1 * 6364136223846793005) + 1442695040888963407) rw rx tm tf sm sf), (rm 1, .inl (cI, 5, .inl (fun k_ => nI (P 0 k_)))), (rm 2, .inl (cI, 5, .inl (fun k_ => nI (P 1 k_)))), (rm 3, .inl (cI, 5, .inl (fun k_ => nI (P 2 k_)))), (rm 4, .inl (cI, 5, .inl (fun k_ => nI (P 3 k_)))), (rm 5, .inl (cI, 5, .inl (fun k_ => nI (P 4 k_)))), (rm 6, .inl (cI, 5, .inl (fun k_ => nI (P 5 k_)))), (rm 10, .inl (cI, 20, .inl (mp c))), (rm 11, .inl (cI, 20, .inl (mp (chanceF P np nq nd gg x0))))]) (congrArg (fun zz : Nat → Int32 => ([(mo, o6 rm (nI tl) pl (nI np) (nI nq) (nI nd) rt rp rq rd (nI cnt) (nI na) ((ch1 * 6364136223846793005) + 1442695040888963407) rw rx tm tf sm sf), (rm 1, .inl (cI, 5, .inl (fun k_ => nI (P 0 k_)))), (rm 2, .inl (cI, 5, .inl (fun k_ => nI (P 1 k_)))), (rm 3, .inl (cI, 5, .inl (fun k_ => nI (P 2 k_)))), (rm 4, .inl (cI, 5, .inl (fun k_ => nI (P 3 k_)))), (rm 5, .inl (cI, 5, .inl (fun k_ => nI (P 4 k_)))), (rm 6, .inl (cI, 5, .inl (fun k_ => nI (P 5 k_)))), (rm 10, .inl (cI, 20, .inl (mp c))), (rm 11, .inl (cI, 20, .inl zz))] : va_W)) ecell) ?_
          have hF4 : ∃ t3, t3 ≤ t2 + 1 ∧ Fr P nd (chanceF P np nq nd gg x0) t3 := by rw [← chT_do x0 hx24]; exact Fr_do hW hF3 (by omega) _ _ _
          have hgn : chanceF P np nq nd gg x0 = yrG P np nq nd c sd (i + 1) := by
            show _ = chanceF P np nq nd (yrG P np nq nd c sd i) (tOf (yrH sd i * 6364136223846793005 + 1442695040888963407))
            rw [← hgg, ← hch, tOf, ← hx0]
          refine g_pop hC dX6_years_120 rfl ?_
          refine g_iconst (v := nI 0) hC dX6_years_121 rfl ?_
          refine g_istore (lv' := [(0, .ref mo), (1, .int (nI jn)), (2, .int x), (3, .int (nI i)), (4, .int (nI x0)), (5, .int (nI 0))]) hC [1, 2, 3, 4, 5, 0] dX6_years_122 (by decide) rfl ?_
          have L124 : ∀ (n : Nat) (pp : Nat) (x2 : Int32), (pp ≤ np) → (x2 = x + sumP (chanceF P np nq nd gg x0) pp) → np - pp < n → G p l e rm_X6_years s m args below meth cd D A 0 0 Q 6 [(mo, o6 rm (nI tl) pl (nI np) (nI nq) (nI nd) rt rp rq rd (nI cnt) (nI na) ((ch1 * 6364136223846793005) + 1442695040888963407) rw rx tm tf sm sf), (rm 1, .inl (cI, 5, .inl (fun k_ => nI (P 0 k_)))), (rm 2, .inl (cI, 5, .inl (fun k_ => nI (P 1 k_)))), (rm 3, .inl (cI, 5, .inl (fun k_ => nI (P 2 k_)))), (rm 4, .inl (cI, 5, .inl (fun k_ => nI (P 3 k_)))), (rm 5, .inl (cI, 5, .inl (fun k_ => nI (P 4 k_)))), (rm 6, .inl (cI, 5, .inl (fun k_ => nI (P 5 k_)))), (rm 10, .inl (cI, 20, .inl (mp c))), (rm 11, .inl (cI, 20, .inl (mp (chanceF P np nq nd gg x0))))] 124 [(0, .ref mo), (1, .int (nI jn)), (2, .int x2), (3, .int (nI i)), (5, .int (nI pp))] [] := by
            intro n
            induction n with
            | zero => intro pp x2 hpp hx2 hn; exact absurd hn (Nat.not_lt_zero _)
            | succ n ih124 =>
              intro pp x2 hpp hx2 hn
              refine g_iload hC 4 dX6_years_124 rfl ?_
              refine g_aload_n hC 0 dX6_years_126 rfl rfl ?_
              refine g_get (C := RX6) (T := TX6) (N := 38) (ci := 6) (v := .int (nI np)) hC hcw6 0 rfl rfl 4 (by decide) w7 (fun _ h => h) rfl dX6_years_127 ?_
              refine g_icmp_ge_n (a := pp) (b := np) hC (by omega) (by omega) 151 dX6_years_130 (by decide) (fun h130t => ?_) (fun h130f => ?_)
              · have ep : pp = np := by omega
                rw [ep] at hx2
                refine g_iinc (v := nI (i + 1)) (lv' := [(0, .ref mo), (1, .int (nI jn)), (2, .int x2), (3, .int (nI (i + 1))), (5, .int (nI pp))]) hC 3 [1, 2, 3, 0, 4] dX6_years_151 rfl (nI_add _ 1) (by decide) rfl ?_
                refine g_goto hC 28 dX6_years_154 (by decide) ?_
                refine g_lv [0, 1, 2, 3] (lv2 := [(0, .ref mo), (1, .int (nI jn)), (2, .int x2), (3, .int (nI (i + 1)))]) rfl ?_
                refine ih28 (i + 1) x2 (chanceF P np nq nd gg x0) ((ch1 * 6364136223846793005) + 1442695040888963407) ?_ ?_ ?_ ?_ ?_ ?_
                · omega
                · rw [hch]; rfl
                · exact hgn
                · rw [hx2, hx, hgn]; rfl
                · obtain ⟨t3, h3, h4⟩ := hF4
                  exact ⟨t3, by omega, h4⟩
                · omega
              refine g_iload_n hC 2 dX6_years_133 rfl rfl ?_
              refine g_aload_n hC 0 dX6_years_134 rfl rfl ?_
              refine g_get (C := RX6) (T := TX6) (N := 38) (ci := 6) (v := .ref (rm 11)) hC hcw6 0 rfl rfl 21 (by decide) w8 (fun _ h => h) rfl dX6_years_135 ?_
              refine g_iconst (v := nI 1) hC dX6_years_138 rfl ?_
              refine g_iload hC 4 dX6_years_139 rfl ?_
              refine g_iadd_n (a := 1) (b := pp) hC dX6_years_141 ?_
              refine g_iald hC 8 rfl (1 + pp) rfl (by omega) (by decide) dX6_years_142 ?_
              refine g_top (y := (chanceF P np nq nd gg x0) (2 + pp)) (mp_1 _ (by omega)) ?_
              refine g_iadd hC dX6_years_143 ?_
              refine g_istore_n (lv' := [(0, .ref mo), (1, .int (nI jn)), (2, .int (x2 + ((chanceF P np nq nd gg x0) (2 + pp)))), (3, .int (nI i)), (5, .int (nI pp))]) hC [1, 2, 0, 3, 4] dX6_years_144 rfl (by decide) rfl ?_
              refine g_iinc (v := nI (pp + 1)) (lv' := [(0, .ref mo), (1, .int (nI jn)), (2, .int (x2 + ((chanceF P np nq nd gg x0) (2 + pp)))), (3, .int (nI i)), (5, .int (nI (pp + 1)))]) hC 4 [1, 2, 3, 4, 0] dX6_years_145 rfl (nI_add _ 1) (by decide) rfl ?_
              refine g_goto hC 124 dX6_years_148 (by decide) ?_
              refine ih124 (pp + 1) (x2 + ((chanceF P np nq nd gg x0) (2 + pp))) ?_ ?_ ?_
              · omega
              · rw [hx2, sumP_s]
              · omega
          refine g_lv [0, 1, 2, 3, 5] (lv2 := [(0, .ref mo), (1, .int (nI jn)), (2, .int x), (3, .int (nI i)), (5, .int (nI 0))]) rfl ?_
          refine L124 _ 0 x ?_ ?_ (Nat.lt_succ_self _)
          · omega
          · show x = x + nI 0
            rw [add_0]
        refine g_aload_n hC 0 dX6_years_63 rfl rfl ?_
        refine g_iload hC 4 dX6_years_64 rfl ?_
        refine g_iconst (v := nI 5) hC dX6_years_66 rfl ?_
        refine g_icmp_ge_n (a := x0) (b := 5) hC (by omega) (by omega) 78 dX6_years_67 (by decide) (fun h67t => ?_) (fun h67f => ?_)
        · refine g_iload hC 4 dX6_years_78 rfl ?_
          refine g_bipush (v := nI 10) hC dX6_years_80 (by decide +kernel) ?_
          refine g_icmp_ge_n (a := x0) (b := 10) hC (by omega) (by omega) 94 dX6_years_82 (by decide) (fun h82t => ?_) (fun h82f => ?_)
          · refine g_iload hC 4 dX6_years_94 rfl ?_
            refine g_bipush (v := nI 13) hC dX6_years_96 (by decide +kernel) ?_
            refine g_icmp_ge_n (a := x0) (b := 13) hC (by omega) (by omega) 116 dX6_years_98 (by decide) (fun h98t => ?_) (fun h98f => ?_)
            · refine g_iconst (v := nI 0) hC dX6_years_116 rfl ?_
              refine g_top (y := nI (chT x0)) (by rw [chT, if_neg (by omega), if_neg (by omega), if_neg (by omega)]) ?_
              exact J117
            refine g_sipush (v := nI 302) hC dX6_years_101 (by decide +kernel) ?_
            refine g_bipush (v := nI 10) hC dX6_years_104 (by decide +kernel) ?_
            refine g_iload hC 4 dX6_years_106 rfl ?_
            refine g_bipush (v := nI 10) hC dX6_years_108 (by decide +kernel) ?_
            refine g_isub_n (a := x0) (b := 10) hC (by omega) dX6_years_110 ?_
            refine g_imul_n (a := 10) (b := (x0 - 10)) hC dX6_years_111 ?_
            refine g_iadd_n (a := 302) (b := (10 * (x0 - 10))) hC dX6_years_112 ?_
            refine g_goto hC 117 dX6_years_113 (by decide) ?_
            refine g_top (y := nI (chT x0)) (by rw [chT, if_neg (by omega), if_neg (by omega), if_pos h98f]) ?_
            exact J117
          refine g_sipush (v := nI 195) hC dX6_years_85 (by decide +kernel) ?_
          refine g_iload hC 4 dX6_years_88 rfl ?_
          refine g_iadd_n (a := 195) (b := x0) hC dX6_years_90 ?_
          refine g_goto hC 117 dX6_years_91 (by decide) ?_
          refine g_top (y := nI (chT x0)) (by rw [chT, if_neg (by omega), if_pos h82f]) ?_
          exact J117
        refine g_bipush (v := nI 100) hC dX6_years_70 (by decide +kernel) ?_
        refine g_iload hC 4 dX6_years_72 rfl ?_
        refine g_iadd_n (a := 100) (b := x0) hC dX6_years_74 ?_
        refine g_goto hC 117 dX6_years_75 (by decide) ?_
        refine g_top (y := nI (chT x0)) (by rw [chT, if_pos h67f]) ?_
        exact J117
    refine L28 _ 0 (nI 0) c sd ?_ ?_ ?_ ?_ ?_ (Nat.lt_succ_self _)
    · omega
    · rfl
    · rfl
    · rfl
    · exact ⟨t, by omega, hFr⟩
  refine g_bipush (v := (-2)) hC dX6_years_17 (by decide +kernel) ?_
  subst hQ
  refine g_iret (v := -2) hC (g, sd) hr ?_ rfl dX6_years_19
  have no : ¬ okY a := h14f
  rw [yearsR, yearsH, if_neg no, if_neg no]; exact ⟨rfl, rfl⟩
