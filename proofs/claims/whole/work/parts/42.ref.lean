abbrev rm_X6_tickets : Room := { frames := 1, cells := 0, slots := 0, locals := 25 }
set_option maxRecDepth 100000 in
set_option maxHeartbeats 8000000 in
theorem c_X6_tickets (l : Launch) (D : va_G) (cI cZ : ClassId) (mo : Nat) (rm : Nat → Nat) (tl : Nat) (pl : Int32) (np : Nat) (nq : Nat) (nd : Nat) (rt : Int32) (rp : Int32) (rq : Int32) (rd : Int32) (cnt : Nat) (na : Nat) (sd : Int64) (rw : Int32) (rx : Int32) (tm : Int32) (tf : Int32) (sm : Int32) (sf : Int32) (fd : Nat → Int32) (fu : Nat → Int32) (a : Int32) (hna : na ≤ 6) : CtI l yX6_tickets wsX6_tickets rm_X6_tickets D cI cZ [.ref mo, .int a] [(mo, o6 rm (nI tl) pl (nI np) (nI nq) (nI nd) rt rp rq rd (nI cnt) (nI na) sd rw rx tm tf sm sf), (rm 15, .inl (cI, 6, .inl fd)), (rm 16, .inl (cI, 6, .inl fu))] (fun (r : Int32) (z : Int32 × Int32) => match z with | (tm2, tf2) => r = ticketsR fd fu na a) (fun (z : Int32 × Int32) => match z with | (tm2, tf2) => [(mo, o6 rm (nI tl) pl (nI np) (nI nq) (nI nd) rt rp rq rd (nI cnt) (nI na) sd rw rx tm2 tf2 sm sf), (rm 15, .inl (cI, 6, .inl fd)), (rm 16, .inl (cI, 6, .inl fu))]) 0 0 := by
  refine g_startI (ret := (some .int)) (own := RX6) (lv0 := [(0, .ref mo), (1, .int a)]) (by decide) rfl rfl (Nat.le_of_ble_eq_true rfl) rfl ?_
  intro p e s m args below meth cd A Q hin hr hQ hC
  have hcw6 : ∀ w ∈ wsX60, w ∈ wsX6_tickets := fun _ h => List.mem_cons_of_mem _ (List.mem_append_right _ h)
  have w1 := hC.1.2.2.2.2 (.fieldLink "PluckBrokerModel" 68 "PluckBrokerModel" "thrown" "I") (List.mem_of_getElem? (i := 1) rfl)
  have w2 := hC.1.2.2.2.2 (.fieldLink "PluckBrokerModel" 244 "PluckBrokerModel" "ticketMany" "I") (List.mem_of_getElem? (i := 2) rfl)
  have w3 := hC.1.2.2.2.2 (.fieldLink "PluckBrokerModel" 247 "PluckBrokerModel" "ticketFirst" "I") (List.mem_of_getElem? (i := 3) rfl)
  have w4 := hC.1.2.2.2.2 (.fieldLink "PluckBrokerModel" 144 "PluckBrokerModel" "asked" "I") (List.mem_of_getElem? (i := 4) rfl)
  have w5 := hC.1.2.2.2.2 (.fieldLink "PluckBrokerModel" 56 "PluckBrokerModel" "askedDay" "[I") (List.mem_of_getElem? (i := 5) rfl)
  have w6 := hC.1.2.2.2.2 (.fieldLink "PluckBrokerModel" 59 "PluckBrokerModel" "askedDue" "[I") (List.mem_of_getElem? (i := 6) rfl)
  refine g_aload_n hC 0 dX6_tickets_0 rfl rfl ?_
  refine g_iconst (v := nI 0) hC dX6_tickets_1 rfl ?_
  refine g_put (C := RX6) (T := TX6) (N := 38) (ci := 6) (v := .int (nI 0)) hC hcw6 tyX6 tyX6_ok nmX6 0 rfl rfl 0 (by decide) w1 (fun _ h => h) rfl (tyX6_ok 0 (by decide)) rfl rfl (Nat.le_of_ble_eq_true rfl) [(mo, o6 rm (nI tl) pl (nI np) (nI nq) (nI nd) rt rp rq rd (nI cnt) (nI na) sd rw rx tm tf sm sf), (rm 15, .inl (cI, 6, .inl fd)), (rm 16, .inl (cI, 6, .inl fu))] rfl dX6_tickets_2 ?_
  refine g_iload_n hC 1 dX6_tickets_5 rfl rfl ?_
  refine g_i2l hC dX6_tickets_6 rfl ?_
  refine g_lconst (v := (nI 0).toInt64) hC dX6_tickets_7 (by decide +kernel) ?_
  refine g_lconst (v := (nI 1).toInt64) hC dX6_tickets_8 (by decide +kernel) ?_
  refine g_callSip (As := [.long a.toInt64, .long ((nI 0).toInt64), .long ((nI 1).toInt64)]) (rest := []) hC (bI ((nI 0) ≤ a ∧ a ≤ (nI 1))) (c_X6_in l D cI cZ a (nI 0) (nI 1)) (va_cwS 3 hC.1.2.2.2.2 gX6_tickets_X6_in rfl rfl rfl dS_X6_in ⟨Nat.le_of_ble_eq_true rfl, Nat.le_of_ble_eq_true rfl⟩) rfl rfl (Nat.le_of_ble_eq_true rfl) dX6_tickets_9 ⟨Nat.le_of_ble_eq_true rfl, Nat.le_of_ble_eq_true rfl⟩ [] rfl rfl ?_
  refine g_if_ne_b hC 18 dX6_tickets_12 (by decide) (fun h12t => ?_) (fun h12f => ?_)
  · have okw : okC a := h12t
    obtain ⟨wn, hwn, rfl⟩ := ok_n (M := 1) (by decide) okw
    refine g_aload_n hC 0 dX6_tickets_18 rfl rfl ?_
    refine g_iconst (v := nI 0) hC dX6_tickets_19 rfl ?_
    refine g_put (C := RX6) (T := TX6) (N := 38) (ci := 6) (v := .int (nI 0)) hC hcw6 tyX6 tyX6_ok nmX6 0 rfl rfl 32 (by decide) w2 (fun _ h => h) rfl (tyX6_ok 32 (by decide)) rfl rfl (Nat.le_of_ble_eq_true rfl) [(mo, o6 rm (nI tl) pl (nI np) (nI nq) (nI nd) rt rp rq rd (nI cnt) (nI na) sd rw rx (nI 0) tf sm sf), (rm 15, .inl (cI, 6, .inl fd)), (rm 16, .inl (cI, 6, .inl fu))] rfl dX6_tickets_20 ?_
    refine g_aload_n hC 0 dX6_tickets_23 rfl rfl ?_
    refine g_bipush (v := (-9)) hC dX6_tickets_24 (by decide +kernel) ?_
    refine g_put (C := RX6) (T := TX6) (N := 38) (ci := 6) (v := .int (-9)) hC hcw6 tyX6 tyX6_ok nmX6 0 rfl rfl 33 (by decide) w3 (fun _ h => h) rfl (tyX6_ok 33 (by decide)) rfl rfl (Nat.le_of_ble_eq_true rfl) [(mo, o6 rm (nI tl) pl (nI np) (nI nq) (nI nd) rt rp rq rd (nI cnt) (nI na) sd rw rx (nI 0) (-9) sm sf), (rm 15, .inl (cI, 6, .inl fd)), (rm 16, .inl (cI, 6, .inl fu))] rfl dX6_tickets_26 ?_
    refine g_iconst (v := nI 0) hC dX6_tickets_29 rfl ?_
    refine g_istore_n (lv' := [(0, .ref mo), (1, .int (nI wn)), (2, .int (nI 0))]) hC [1, 2, 0] dX6_tickets_30 rfl (by decide) rfl ?_
    have L31 : ∀ (n : Nat) (kk : Nat) (fo : Nat) (x : Int32), (kk ≤ 4) → (fo ≤ 9 * kk) → (fo = tkN fd fu na (9 * kk)) → (x = tkF fd fu na (9 * kk)) → 4 - kk < n → G p l e rm_X6_tickets s m args below meth cd D A 0 0 Q 6 [(mo, o6 rm (nI tl) pl (nI np) (nI nq) (nI nd) rt rp rq rd (nI cnt) (nI na) sd rw rx (nI fo) x sm sf), (rm 15, .inl (cI, 6, .inl fd)), (rm 16, .inl (cI, 6, .inl fu))] 31 [(0, .ref mo), (1, .int (nI wn)), (2, .int (nI kk))] [] := by
      intro n
      induction n with
      | zero => intro kk fo x hk hfo hf hx hn; exact absurd hn (Nat.not_lt_zero _)
      | succ n ih31 =>
        intro kk fo x hk hfo hf hx hn
        refine g_iload_n hC 2 dX6_tickets_31 rfl rfl ?_
        refine g_iconst (v := nI 4) hC dX6_tickets_32 rfl ?_
        refine g_icmp_ge_n (a := kk) (b := 4) hC (by omega) (by omega) 166 dX6_tickets_33 (by decide) (fun h33t => ?_) (fun h33f => ?_)
        · have ek : kk = 4 := by omega
          rw [ek] at hf hx
          refine g_iload_n hC 1 dX6_tickets_166 rfl rfl ?_
          refine g_if_ne_n (a := wn) hC (by omega) 177 dX6_tickets_167 (by decide) (fun h167t => ?_) (fun h167f => ?_)
          · refine g_aload_n hC 0 dX6_tickets_177 rfl rfl ?_
            refine g_get (C := RX6) (T := TX6) (N := 38) (ci := 6) (v := .int x) hC hcw6 0 rfl rfl 33 (by decide) w3 (fun _ h => h) rfl dX6_tickets_178 ?_
            subst hQ
            refine g_iret (v := x) hC (nI fo, x) hr ?_ rfl dX6_tickets_181
            rw [ticketsR, if_pos okw, if_neg (fun q => h167t ((nI_eq (by omega) (by decide)).mp q))]; exact hx
          refine g_aload_n hC 0 dX6_tickets_170 rfl rfl ?_
          refine g_get (C := RX6) (T := TX6) (N := 38) (ci := 6) (v := .int (nI fo)) hC hcw6 0 rfl rfl 32 (by decide) w2 (fun _ h => h) rfl dX6_tickets_171 ?_
          refine g_goto hC 181 dX6_tickets_174 (by decide) ?_
          subst hQ
          refine g_iret (v := nI fo) hC (nI fo, x) hr ?_ rfl dX6_tickets_181
          rw [ticketsR, if_pos okw, if_pos (by rw [h167f])]; rw [hf]
        refine g_iconst (v := nI 1) hC dX6_tickets_36 rfl ?_
        refine g_istore_n (lv' := [(0, .ref mo), (1, .int (nI wn)), (2, .int (nI kk)), (3, .int (nI 1))]) hC [1, 2, 3, 0] dX6_tickets_37 rfl (by decide) rfl ?_
        have L38 : ∀ (n : Nat) (w : Nat) (fo2 : Nat) (x2 : Int32), (1 ≤ w) → (w ≤ 10) → (fo2 ≤ 9 * kk + (w - 1)) → (fo2 = tkN fd fu na (9 * kk + (w - 1))) → (x2 = tkF fd fu na (9 * kk + (w - 1))) → 10 - w < n → G p l e rm_X6_tickets s m args below meth cd D A 0 0 Q 6 [(mo, o6 rm (nI tl) pl (nI np) (nI nq) (nI nd) rt rp rq rd (nI cnt) (nI na) sd rw rx (nI fo2) x2 sm sf), (rm 15, .inl (cI, 6, .inl fd)), (rm 16, .inl (cI, 6, .inl fu))] 38 [(0, .ref mo), (1, .int (nI wn)), (2, .int (nI kk)), (3, .int (nI w))] [] := by
          intro n
          induction n with
          | zero => intro w fo2 x2 hw1 hw hfo2 hf2 hx2 hn; exact absurd hn (Nat.not_lt_zero _)
          | succ n ih38 =>
            intro w fo2 x2 hw1 hw hfo2 hf2 hx2 hn
            refine g_iload_n hC 3 dX6_tickets_38 rfl rfl ?_
            refine g_bipush (v := nI 9) hC dX6_tickets_39 (by decide +kernel) ?_
            refine g_icmp_gt_n (a := w) (b := 9) hC (by omega) (by omega) 160 dX6_tickets_41 (by decide) (fun h41t => ?_) (fun h41f => ?_)
            · refine g_iinc (v := nI (kk + 1)) (lv' := [(0, .ref mo), (1, .int (nI wn)), (2, .int (nI (kk + 1))), (3, .int (nI w))]) hC 2 [1, 2, 0, 3] dX6_tickets_160 rfl (nI_add _ 1) (by decide) rfl ?_
              refine g_goto hC 31 dX6_tickets_163 (by decide) ?_
              refine g_lv [0, 1, 2] (lv2 := [(0, .ref mo), (1, .int (nI wn)), (2, .int (nI (kk + 1)))]) rfl ?_
              refine ih31 (kk + 1) fo2 x2 ?_ ?_ ?_ ?_ ?_
              · omega
              · omega
              · rw [hf2, show 9 * kk + (w - 1) = 9 * (kk + 1) by omega]
              · rw [hx2, show 9 * kk + (w - 1) = 9 * (kk + 1) by omega]
              · omega
            refine g_iconst (v := nI 1) hC dX6_tickets_44 rfl ?_
            refine g_istore (lv' := [(0, .ref mo), (1, .int (nI wn)), (2, .int (nI kk)), (3, .int (nI w)), (4, .int (nI 1))]) hC [1, 2, 3, 4, 0] dX6_tickets_45 (by decide) rfl ?_
            refine g_iconst (v := nI 0) hC dX6_tickets_47 rfl ?_
            refine g_istore (lv' := [(0, .ref mo), (1, .int (nI wn)), (2, .int (nI kk)), (3, .int (nI w)), (4, .int (nI 1)), (5, .int (nI 0))]) hC [1, 2, 3, 4, 5, 0] dX6_tickets_48 (by decide) rfl ?_
            have L50 : ∀ (n : Nat) (i : Nat) (sb : Nat), (i ≤ na) → ((sb = 1 ∧ fitsF fd fu i (nI kk) (nI w)) ∨ (sb = 0 ∧ ¬ fitsF fd fu na (nI kk) (nI w))) → na - i < n → G p l e rm_X6_tickets s m args below meth cd D A 0 0 Q 6 [(mo, o6 rm (nI tl) pl (nI np) (nI nq) (nI nd) rt rp rq rd (nI cnt) (nI na) sd rw rx (nI fo2) x2 sm sf), (rm 15, .inl (cI, 6, .inl fd)), (rm 16, .inl (cI, 6, .inl fu))] 50 [(0, .ref mo), (1, .int (nI wn)), (2, .int (nI kk)), (3, .int (nI w)), (4, .int (nI sb)), (5, .int (nI i))] [] := by
              intro n
              induction n with
              | zero => intro i sb hi hs hn; exact absurd hn (Nat.not_lt_zero _)
              | succ n ih50 =>
                intro i sb hi hs hn
                refine g_iload hC 5 dX6_tickets_50 rfl ?_
                refine g_aload_n hC 0 dX6_tickets_52 rfl rfl ?_
                refine g_get (C := RX6) (T := TX6) (N := 38) (ci := 6) (v := .int (nI na)) hC hcw6 0 rfl rfl 26 (by decide) w4 (fun _ h => h) rfl dX6_tickets_53 ?_
                refine g_icmp_ge_n (a := i) (b := na) hC (by omega) (by omega) 106 dX6_tickets_56 (by decide) (fun h56t => ?_) (fun h56f => ?_)
                · have ei : i = na := by omega
                  rw [ei] at hs
                  refine g_aload_n hC 0 dX6_tickets_106 rfl rfl ?_
                  refine g_iload hC 4 dX6_tickets_107 rfl ?_
                  refine g_if_eq_n (a := sb) hC (by rcases hs with ⟨hs, -⟩ | ⟨hs, -⟩ <;> omega) 128 dX6_tickets_109 (by decide) (fun h109t => ?_) (fun h109f => ?_)
                  · have hnf := (hs.resolve_left (fun q => by have := q.1; omega)).2
                    refine g_aload_n hC 0 dX6_tickets_128 rfl rfl ?_
                    refine g_get (C := RX6) (T := TX6) (N := 38) (ci := 6) (v := .int x2) hC hcw6 0 rfl rfl 33 (by decide) w3 (fun _ h => h) rfl dX6_tickets_129 ?_
                    refine g_put (C := RX6) (T := TX6) (N := 38) (ci := 6) (v := .int x2) hC hcw6 tyX6 tyX6_ok nmX6 0 rfl rfl 33 (by decide) w3 (fun _ h => h) rfl (tyX6_ok 33 (by decide)) rfl rfl (Nat.le_of_ble_eq_true rfl) [(mo, o6 rm (nI tl) pl (nI np) (nI nq) (nI nd) rt rp rq rd (nI cnt) (nI na) sd rw rx (nI fo2) x2 sm sf), (rm 15, .inl (cI, 6, .inl fd)), (rm 16, .inl (cI, 6, .inl fu))] rfl dX6_tickets_132 ?_
                    refine g_aload_n hC 0 dX6_tickets_135 rfl rfl ?_
                    refine g_dup hC dX6_tickets_136 rfl ?_
                    refine g_get (C := RX6) (T := TX6) (N := 38) (ci := 6) (v := .int (nI fo2)) hC hcw6 0 rfl rfl 32 (by decide) w2 (fun _ h => h) rfl dX6_tickets_137 ?_
                    refine g_iload hC 4 dX6_tickets_140 rfl ?_
                    refine g_if_eq_n (a := sb) hC (by rcases hs with ⟨hs, -⟩ | ⟨hs, -⟩ <;> omega) 149 dX6_tickets_142 (by decide) (fun h142t => ?_) (fun h142f => ?_)
                    · refine g_iconst (v := nI 0) hC dX6_tickets_149 rfl ?_
                      refine g_iadd_n (a := fo2) (b := 0) hC dX6_tickets_150 ?_
                      refine g_put (C := RX6) (T := TX6) (N := 38) (ci := 6) (v := .int (nI (fo2 + 0))) hC hcw6 tyX6 tyX6_ok nmX6 0 rfl rfl 32 (by decide) w2 (fun _ h => h) rfl (tyX6_ok 32 (by decide)) rfl rfl (Nat.le_of_ble_eq_true rfl) [(mo, o6 rm (nI tl) pl (nI np) (nI nq) (nI nd) rt rp rq rd (nI cnt) (nI na) sd rw rx (nI (fo2 + 0)) x2 sm sf), (rm 15, .inl (cI, 6, .inl fd)), (rm 16, .inl (cI, 6, .inl fu))] rfl dX6_tickets_151 ?_
                      refine g_iinc (v := nI (w + 1)) (lv' := [(0, .ref mo), (1, .int (nI wn)), (2, .int (nI kk)), (3, .int (nI (w + 1))), (4, .int (nI sb)), (5, .int (nI i))]) hC 3 [1, 2, 3, 0, 4, 5] dX6_tickets_154 rfl (nI_add _ 1) (by decide) rfl ?_
                      refine g_goto hC 38 dX6_tickets_157 (by decide) ?_
                      refine g_lv [0, 1, 2, 3] (lv2 := [(0, .ref mo), (1, .int (nI wn)), (2, .int (nI kk)), (3, .int (nI (w + 1)))]) rfl ?_
                      refine ih38 (w + 1) (fo2 + 0) x2 ?_ ?_ ?_ ?_ ?_ ?_
                      · omega
                      · omega
                      · omega
                      · have e9 : (9 * kk + (w - 1)) / 9 = kk := by omega
                        have e10 : (9 * kk + (w - 1)) % 9 + 1 = w := by omega
                        rw [show 9 * kk + (w + 1 - 1) = (9 * kk + (w - 1)) + 1 by omega]
                        show _ = tkN fd fu na (9 * kk + (w - 1)) + (if fitsF fd fu na (nI ((9 * kk + (w - 1)) / 9)) (nI ((9 * kk + (w - 1)) % 9 + 1)) then 1 else 0)
                        rw [e9, e10, ← hf2, if_neg hnf]
                      · have e9 : (9 * kk + (w - 1)) / 9 = kk := by omega
                        have e10 : (9 * kk + (w - 1)) % 9 + 1 = w := by omega
                        rw [show 9 * kk + (w + 1 - 1) = (9 * kk + (w - 1)) + 1 by omega]
                        show _ = (if fitsF fd fu na (nI ((9 * kk + (w - 1)) / 9)) (nI ((9 * kk + (w - 1)) % 9 + 1)) ∧ tkN fd fu na (9 * kk + (w - 1)) = 0 then nI (10 * ((9 * kk + (w - 1)) / 9) + ((9 * kk + (w - 1)) % 9 + 1)) else tkF fd fu na (9 * kk + (w - 1)))
                        rw [e9, e10, ← hf2, ← hx2, if_neg (fun q => hnf q.1)]
                      · omega
                    exact absurd h109t h142f
                  have hfit := (hs.resolve_right (fun q => h109f q.1)).2
                  refine g_aload_n hC 0 dX6_tickets_112 rfl rfl ?_
                  refine g_get (C := RX6) (T := TX6) (N := 38) (ci := 6) (v := .int (nI fo2)) hC hcw6 0 rfl rfl 32 (by decide) w2 (fun _ h => h) rfl dX6_tickets_113 ?_
                  refine g_if_ne_n (a := fo2) hC (by omega) 128 dX6_tickets_116 (by decide) (fun h116t => ?_) (fun h116f => ?_)
                  · refine g_aload_n hC 0 dX6_tickets_128 rfl rfl ?_
                    refine g_get (C := RX6) (T := TX6) (N := 38) (ci := 6) (v := .int x2) hC hcw6 0 rfl rfl 33 (by decide) w3 (fun _ h => h) rfl dX6_tickets_129 ?_
                    refine g_put (C := RX6) (T := TX6) (N := 38) (ci := 6) (v := .int x2) hC hcw6 tyX6 tyX6_ok nmX6 0 rfl rfl 33 (by decide) w3 (fun _ h => h) rfl (tyX6_ok 33 (by decide)) rfl rfl (Nat.le_of_ble_eq_true rfl) [(mo, o6 rm (nI tl) pl (nI np) (nI nq) (nI nd) rt rp rq rd (nI cnt) (nI na) sd rw rx (nI fo2) x2 sm sf), (rm 15, .inl (cI, 6, .inl fd)), (rm 16, .inl (cI, 6, .inl fu))] rfl dX6_tickets_132 ?_
                    refine g_aload_n hC 0 dX6_tickets_135 rfl rfl ?_
                    refine g_dup hC dX6_tickets_136 rfl ?_
                    refine g_get (C := RX6) (T := TX6) (N := 38) (ci := 6) (v := .int (nI fo2)) hC hcw6 0 rfl rfl 32 (by decide) w2 (fun _ h => h) rfl dX6_tickets_137 ?_
                    refine g_iload hC 4 dX6_tickets_140 rfl ?_
                    refine g_if_eq_n (a := sb) hC (by rcases hs with ⟨hs, -⟩ | ⟨hs, -⟩ <;> omega) 149 dX6_tickets_142 (by decide) (fun h142t => ?_) (fun h142f => ?_)
                    · exact absurd h142t h109f
                    refine g_iconst (v := nI 1) hC dX6_tickets_145 rfl ?_
                    refine g_goto hC 150 dX6_tickets_146 (by decide) ?_
                    refine g_iadd_n (a := fo2) (b := 1) hC dX6_tickets_150 ?_
                    refine g_put (C := RX6) (T := TX6) (N := 38) (ci := 6) (v := .int (nI (fo2 + 1))) hC hcw6 tyX6 tyX6_ok nmX6 0 rfl rfl 32 (by decide) w2 (fun _ h => h) rfl (tyX6_ok 32 (by decide)) rfl rfl (Nat.le_of_ble_eq_true rfl) [(mo, o6 rm (nI tl) pl (nI np) (nI nq) (nI nd) rt rp rq rd (nI cnt) (nI na) sd rw rx (nI (fo2 + 1)) x2 sm sf), (rm 15, .inl (cI, 6, .inl fd)), (rm 16, .inl (cI, 6, .inl fu))] rfl dX6_tickets_151 ?_
                    refine g_iinc (v := nI (w + 1)) (lv' := [(0, .ref mo), (1, .int (nI wn)), (2, .int (nI kk)), (3, .int (nI (w + 1))), (4, .int (nI sb)), (5, .int (nI i))]) hC 3 [1, 2, 3, 0, 4, 5] dX6_tickets_154 rfl (nI_add _ 1) (by decide) rfl ?_
                    refine g_goto hC 38 dX6_tickets_157 (by decide) ?_
                    refine g_lv [0, 1, 2, 3] (lv2 := [(0, .ref mo), (1, .int (nI wn)), (2, .int (nI kk)), (3, .int (nI (w + 1)))]) rfl ?_
                    refine ih38 (w + 1) (fo2 + 1) x2 ?_ ?_ ?_ ?_ ?_ ?_
                    · omega
                    · omega
                    · omega
                    · have e9 : (9 * kk + (w - 1)) / 9 = kk := by omega
                      have e10 : (9 * kk + (w - 1)) % 9 + 1 = w := by omega
                      rw [show 9 * kk + (w + 1 - 1) = (9 * kk + (w - 1)) + 1 by omega]
                      show _ = tkN fd fu na (9 * kk + (w - 1)) + (if fitsF fd fu na (nI ((9 * kk + (w - 1)) / 9)) (nI ((9 * kk + (w - 1)) % 9 + 1)) then 1 else 0)
                      rw [e9, e10, ← hf2, if_pos hfit]
                    · have e9 : (9 * kk + (w - 1)) / 9 = kk := by omega
                      have e10 : (9 * kk + (w - 1)) % 9 + 1 = w := by omega
                      rw [show 9 * kk + (w + 1 - 1) = (9 * kk + (w - 1)) + 1 by omega]
                      show _ = (if fitsF fd fu na (nI ((9 * kk + (w - 1)) / 9)) (nI ((9 * kk + (w - 1)) % 9 + 1)) ∧ tkN fd fu na (9 * kk + (w - 1)) = 0 then nI (10 * ((9 * kk + (w - 1)) / 9) + ((9 * kk + (w - 1)) % 9 + 1)) else tkF fd fu na (9 * kk + (w - 1)))
                      rw [e9, e10, ← hf2, ← hx2, if_neg (fun q => h116t q.2)]
                    · omega
                  refine g_bipush (v := nI 10) hC dX6_tickets_119 (by decide +kernel) ?_
                  refine g_iload_n hC 2 dX6_tickets_121 rfl rfl ?_
                  refine g_imul_n (a := 10) (b := kk) hC dX6_tickets_122 ?_
                  refine g_iload_n hC 3 dX6_tickets_123 rfl rfl ?_
                  refine g_iadd_n (a := (10 * kk)) (b := w) hC dX6_tickets_124 ?_
                  refine g_goto hC 132 dX6_tickets_125 (by decide) ?_
                  refine g_put (C := RX6) (T := TX6) (N := 38) (ci := 6) (v := .int (nI (10 * kk + w))) hC hcw6 tyX6 tyX6_ok nmX6 0 rfl rfl 33 (by decide) w3 (fun _ h => h) rfl (tyX6_ok 33 (by decide)) rfl rfl (Nat.le_of_ble_eq_true rfl) [(mo, o6 rm (nI tl) pl (nI np) (nI nq) (nI nd) rt rp rq rd (nI cnt) (nI na) sd rw rx (nI fo2) (nI (10 * kk + w)) sm sf), (rm 15, .inl (cI, 6, .inl fd)), (rm 16, .inl (cI, 6, .inl fu))] rfl dX6_tickets_132 ?_
                  refine g_aload_n hC 0 dX6_tickets_135 rfl rfl ?_
                  refine g_dup hC dX6_tickets_136 rfl ?_
                  refine g_get (C := RX6) (T := TX6) (N := 38) (ci := 6) (v := .int (nI fo2)) hC hcw6 0 rfl rfl 32 (by decide) w2 (fun _ h => h) rfl dX6_tickets_137 ?_
                  refine g_iload hC 4 dX6_tickets_140 rfl ?_
                  refine g_if_eq_n (a := sb) hC (by rcases hs with ⟨hs, -⟩ | ⟨hs, -⟩ <;> omega) 149 dX6_tickets_142 (by decide) (fun h142t => ?_) (fun h142f => ?_)
                  · exact absurd h142t h109f
                  refine g_iconst (v := nI 1) hC dX6_tickets_145 rfl ?_
                  refine g_goto hC 150 dX6_tickets_146 (by decide) ?_
                  refine g_iadd_n (a := fo2) (b := 1) hC dX6_tickets_150 ?_
                  refine g_put (C := RX6) (T := TX6) (N := 38) (ci := 6) (v := .int (nI (fo2 + 1))) hC hcw6 tyX6 tyX6_ok nmX6 0 rfl rfl 32 (by decide) w2 (fun _ h => h) rfl (tyX6_ok 32 (by decide)) rfl rfl (Nat.le_of_ble_eq_true rfl) [(mo, o6 rm (nI tl) pl (nI np) (nI nq) (nI nd) rt rp rq rd (nI cnt) (nI na) sd rw rx (nI (fo2 + 1)) (nI (10 * kk + w)) sm sf), (rm 15, .inl (cI, 6, .inl fd)), (rm 16, .inl (cI, 6, .inl fu))] rfl dX6_tickets_151 ?_
                  refine g_iinc (v := nI (w + 1)) (lv' := [(0, .ref mo), (1, .int (nI wn)), (2, .int (nI kk)), (3, .int (nI (w + 1))), (4, .int (nI sb)), (5, .int (nI i))]) hC 3 [1, 2, 3, 0, 4, 5] dX6_tickets_154 rfl (nI_add _ 1) (by decide) rfl ?_
                  refine g_goto hC 38 dX6_tickets_157 (by decide) ?_
                  refine g_lv [0, 1, 2, 3] (lv2 := [(0, .ref mo), (1, .int (nI wn)), (2, .int (nI kk)), (3, .int (nI (w + 1)))]) rfl ?_
                  refine ih38 (w + 1) (fo2 + 1) (nI (10 * kk + w)) ?_ ?_ ?_ ?_ ?_ ?_
                  · omega
                  · omega
                  · omega
                  · have e9 : (9 * kk + (w - 1)) / 9 = kk := by omega
                    have e10 : (9 * kk + (w - 1)) % 9 + 1 = w := by omega
                    rw [show 9 * kk + (w + 1 - 1) = (9 * kk + (w - 1)) + 1 by omega]
                    show _ = tkN fd fu na (9 * kk + (w - 1)) + (if fitsF fd fu na (nI ((9 * kk + (w - 1)) / 9)) (nI ((9 * kk + (w - 1)) % 9 + 1)) then 1 else 0)
                    rw [e9, e10, ← hf2, if_pos hfit]
                  · have e9 : (9 * kk + (w - 1)) / 9 = kk := by omega
                    have e10 : (9 * kk + (w - 1)) % 9 + 1 = w := by omega
                    rw [show 9 * kk + (w + 1 - 1) = (9 * kk + (w - 1)) + 1 by omega]
                    show _ = (if fitsF fd fu na (nI ((9 * kk + (w - 1)) / 9)) (nI ((9 * kk + (w - 1)) % 9 + 1)) ∧ tkN fd fu na (9 * kk + (w - 1)) = 0 then nI (10 * ((9 * kk + (w - 1)) / 9) + ((9 * kk + (w - 1)) % 9 + 1)) else tkF fd fu na (9 * kk + (w - 1)))
                    rw [e9, e10, ← hf2, ← hx2, if_pos ⟨hfit, h116f⟩]
                  · omega
                refine g_iload hC 4 dX6_tickets_59 rfl ?_
                refine g_if_eq_n (a := sb) hC (by rcases hs with ⟨hs, -⟩ | ⟨hs, -⟩ <;> omega) 97 dX6_tickets_61 (by decide) (fun h61t => ?_) (fun h61f => ?_)
                · refine g_iconst (v := nI 0) hC dX6_tickets_97 rfl ?_
                  refine g_istore (lv' := [(0, .ref mo), (1, .int (nI wn)), (2, .int (nI kk)), (3, .int (nI w)), (4, .int (nI 0)), (5, .int (nI i))]) hC [1, 2, 3, 4, 0, 5] dX6_tickets_98 (by decide) rfl ?_
                  refine g_iinc (v := nI (i + 1)) (lv' := [(0, .ref mo), (1, .int (nI wn)), (2, .int (nI kk)), (3, .int (nI w)), (4, .int (nI 0)), (5, .int (nI (i + 1)))]) hC 5 [1, 2, 3, 4, 5, 0] dX6_tickets_100 rfl (nI_add _ 1) (by decide) rfl ?_
                  refine g_goto hC 50 dX6_tickets_103 (by decide) ?_
                  refine ih50 (i + 1) 0 ?_ ?_ ?_
                  · omega
                  · exact Or.inr ⟨rfl, (hs.resolve_left (fun q => by have := q.1; omega)).2⟩
                  · omega
                refine g_iload_n hC 3 dX6_tickets_64 rfl rfl ?_
                refine g_iload_n hC 2 dX6_tickets_65 rfl rfl ?_
                refine g_aload_n hC 0 dX6_tickets_66 rfl rfl ?_
                refine g_get (C := RX6) (T := TX6) (N := 38) (ci := 6) (v := .ref (rm 15)) hC hcw6 0 rfl rfl 27 (by decide) w5 (fun _ h => h) rfl dX6_tickets_67 ?_
                refine g_iload hC 5 dX6_tickets_70 rfl ?_
                refine g_iald hC 1 rfl i rfl (by omega) (by decide) dX6_tickets_72 ?_
                refine g_aload_n hC 0 dX6_tickets_73 rfl rfl ?_
                refine g_get (C := RX6) (T := TX6) (N := 38) (ci := 6) (v := .ref (rm 15)) hC hcw6 0 rfl rfl 27 (by decide) w5 (fun _ h => h) rfl dX6_tickets_74 ?_
                refine g_iload hC 5 dX6_tickets_77 rfl ?_
                refine g_iald hC 1 rfl i rfl (by omega) (by decide) dX6_tickets_79 ?_
                refine g_callSip (As := [.int (nI w), .int (nI kk), .int (fd i), .int (fd i)]) (rest := []) hC (dueF (nI kk) (nI w) (fd i) (fd i)) (c_X6_dueBy l D cI cZ (nI w) (nI kk) (fd i) (fd i)) (va_cwS 4 hC.1.2.2.2.2 gX6_tickets_X6_dueBy rfl rfl rfl dS_X6_dueBy ⟨Nat.le_of_ble_eq_true rfl, Nat.le_of_ble_eq_true rfl⟩) rfl rfl (Nat.le_of_ble_eq_true rfl) dX6_tickets_80 ⟨Nat.le_of_ble_eq_true rfl, Nat.le_of_ble_eq_true rfl⟩ [] rfl rfl ?_
                refine g_aload_n hC 0 dX6_tickets_83 rfl rfl ?_
                refine g_get (C := RX6) (T := TX6) (N := 38) (ci := 6) (v := .ref (rm 16)) hC hcw6 0 rfl rfl 28 (by decide) w6 (fun _ h => h) rfl dX6_tickets_84 ?_
                refine g_iload hC 5 dX6_tickets_87 rfl ?_
                refine g_iald hC 2 rfl i rfl (by omega) (by decide) dX6_tickets_89 ?_
                refine g_icmp_ne hC 97 dX6_tickets_90 (by decide) (fun h90t => ?_) (fun h90f => ?_)
                · refine g_iconst (v := nI 0) hC dX6_tickets_97 rfl ?_
                  refine g_istore (lv' := [(0, .ref mo), (1, .int (nI wn)), (2, .int (nI kk)), (3, .int (nI w)), (4, .int (nI 0)), (5, .int (nI i))]) hC [1, 2, 3, 4, 0, 5] dX6_tickets_98 (by decide) rfl ?_
                  refine g_iinc (v := nI (i + 1)) (lv' := [(0, .ref mo), (1, .int (nI wn)), (2, .int (nI kk)), (3, .int (nI w)), (4, .int (nI 0)), (5, .int (nI (i + 1)))]) hC 5 [1, 2, 3, 4, 5, 0] dX6_tickets_100 rfl (nI_add _ 1) (by decide) rfl ?_
                  refine g_goto hC 50 dX6_tickets_103 (by decide) ?_
                  refine ih50 (i + 1) 0 ?_ ?_ ?_
                  · omega
                  · exact Or.inr ⟨rfl, fun q => h90t (q i (by omega))⟩
                  · omega
                refine g_iconst (v := nI 1) hC dX6_tickets_93 rfl ?_
                refine g_goto hC 98 dX6_tickets_94 (by decide) ?_
                refine g_istore (lv' := [(0, .ref mo), (1, .int (nI wn)), (2, .int (nI kk)), (3, .int (nI w)), (4, .int (nI 1)), (5, .int (nI i))]) hC [1, 2, 3, 4, 0, 5] dX6_tickets_98 (by decide) rfl ?_
                refine g_iinc (v := nI (i + 1)) (lv' := [(0, .ref mo), (1, .int (nI wn)), (2, .int (nI kk)), (3, .int (nI w)), (4, .int (nI 1)), (5, .int (nI (i + 1)))]) hC 5 [1, 2, 3, 4, 5, 0] dX6_tickets_100 rfl (nI_add _ 1) (by decide) rfl ?_
                refine g_goto hC 50 dX6_tickets_103 (by decide) ?_
                refine ih50 (i + 1) 1 ?_ ?_ ?_
                · omega
                · have hfi := (hs.resolve_right (fun q => h61f q.1)).2
                  refine Or.inl ⟨rfl, fun q h => ?_⟩
                  rcases Nat.lt_succ_iff_lt_or_eq.mp h with h | h
                  · exact hfi q h
                  · rw [h]; exact h90f
                · omega
            refine L50 _ 0 1 ?_ ?_ (Nat.lt_succ_self _)
            · omega
            · exact Or.inl ⟨rfl, fun q h => absurd h (Nat.not_lt_zero _)⟩
        refine L38 _ 1 fo x ?_ ?_ ?_ ?_ ?_ (Nat.lt_succ_self _)
        · omega
        · omega
        · omega
        · exact hf
        · exact hx
    refine L31 _ 0 0 (-9) ?_ ?_ ?_ ?_ (Nat.lt_succ_self _)
    · omega
    · omega
    · rfl
    · rfl
  refine g_bipush (v := (-2)) hC dX6_tickets_15 (by decide +kernel) ?_
  subst hQ
  refine g_iret (v := -2) hC (tm, tf) hr ?_ rfl dX6_tickets_17
  rw [ticketsR, if_neg h12f]

abbrev rm_X6_goBest : Room := { frames := 1, cells := 0, slots := 0, locals := 22 }
set_option maxRecDepth 100000 in
set_option maxHeartbeats 4000000 in
theorem c_X6_goBest (l : Launch) (D : va_G) (cI cZ : ClassId) (mo : Nat) (rm : Nat → Nat) (tl : Nat) (pl : Int32) (np : Nat) (nq : Nat) (nd : Nat) (rt : Int32) (rp : Int32) (rq : Int32) (rd : Int32) (cnt : Nat) (na : Nat) (sd : Int64) (rw : Int32) (rx : Int32) (tm : Int32) (tf : Int32) (sm : Int32) (sf : Int32) (P : Nat → Nat → Nat) (g : Nat → Int32) (k : Nat) (hW : WFP np nq nd P) (hk : k < np) : CtV l yX6_goBest wsX6_goBest rm_X6_goBest D cI cZ [.ref mo, .int (nI k)] [(mo, o6 rm (nI tl) pl (nI np) (nI nq) (nI nd) rt rp rq rd (nI cnt) (nI na) sd rw rx tm tf sm sf), (rm 1, .inl (cI, 5, .inl (fun k_ => nI (P 0 k_)))), (rm 2, .inl (cI, 5, .inl (fun k_ => nI (P 1 k_)))), (rm 11, .inl (cI, 20, .inl (mp g)))] (fun (_ : Unit) => True) (fun (_ : Unit) => [(mo, o6 rm (nI tl) pl (nI np) (nI nq) (nI nd) rt rp rq rd (nI cnt) (nI na) sd rw rx tm tf sm sf), (rm 1, .inl (cI, 5, .inl (fun k_ => nI (P 0 k_)))), (rm 2, .inl (cI, 5, .inl (fun k_ => nI (P 1 k_)))), (rm 11, .inl (cI, 20, .inl (mp (bestF P nq g (nI k)))))]) 0 0 := by
  refine g_startV (ret := none) (own := RX6) (lv0 := [(0, .ref mo), (1, .int (nI k))]) (by decide) rfl rfl (Nat.le_of_ble_eq_true rfl) rfl ?_
  intro p e s m args below meth cd A Q hin hr hQ hC
  have hcw6 : ∀ w ∈ wsX60, w ∈ wsX6_goBest := fun _ h => List.mem_cons_of_mem _ (List.mem_append_right _ h)
  have w1 := hC.1.2.2.2.2 (.fieldLink "PluckBrokerModel" 79 "PluckBrokerModel" "qualities" "I") (List.mem_of_getElem? (i := 1) rfl)
  have w2 := hC.1.2.2.2.2 (.fieldLink "PluckBrokerModel" 13 "PluckBrokerModel" "owner" "[I") (List.mem_of_getElem? (i := 2) rfl)
  have w3 := hC.1.2.2.2.2 (.fieldLink "PluckBrokerModel" 43 "PluckBrokerModel" "trial" "[I") (List.mem_of_getElem? (i := 3) rfl)
  have w4 := hC.1.2.2.2.2 (.fieldLink "PluckBrokerModel" 16 "PluckBrokerModel" "worth" "[I") (List.mem_of_getElem? (i := 4) rfl)
  obtain ⟨⟨hnp, hnq, hnd⟩, hq4, hd5⟩ := id hW
  refine g_bipush (v := (-9)) hC dX6_goBest_0 (by decide +kernel) ?_
  refine g_istore_n (lv' := [(0, .ref mo), (1, .int (nI k)), (2, .int (-9))]) hC [1, 2, 0] dX6_goBest_2 rfl (by decide) rfl ?_
  refine g_aload_n hC 0 dX6_goBest_3 rfl rfl ?_
  refine g_get (C := RX6) (T := TX6) (N := 38) (ci := 6) (v := .int (nI nq)) hC hcw6 0 rfl rfl 5 (by decide) w1 (fun _ h => h) rfl dX6_goBest_4 ?_
  refine g_iconst (v := nI 1) hC dX6_goBest_7 rfl ?_
  refine g_isub hC dX6_goBest_8 ?_
  refine g_istore_n (lv' := [(0, .ref mo), (1, .int (nI k)), (2, .int (-9)), (3, .int ((nI nq) - (nI 1)))]) hC [1, 2, 3, 0] dX6_goBest_9 rfl (by decide) rfl ?_
  have L10 : ∀ (n : Nat) (j : Nat) (x : Int32), (j ≤ nq) → (x = oI (dearT P g (nI k) nq (nq - j))) → j < n → G p l e rm_X6_goBest s m args below meth cd D A 0 0 Q 5 [(mo, o6 rm (nI tl) pl (nI np) (nI nq) (nI nd) rt rp rq rd (nI cnt) (nI na) sd rw rx tm tf sm sf), (rm 1, .inl (cI, 5, .inl (fun k_ => nI (P 0 k_)))), (rm 2, .inl (cI, 5, .inl (fun k_ => nI (P 1 k_)))), (rm 11, .inl (cI, 20, .inl (mp g)))] 10 [(0, .ref mo), (1, .int (nI k)), (2, .int x), (3, .int (nI j - nI 1))] [] := by
    intro n
    induction n with
    | zero => intro j x hj hx hn; exact absurd hn (Nat.not_lt_zero _)
    | succ n ih10 =>
      intro j x hj hx hn
      by_cases hj0 : j = 0
      · refine g_iload_n hC 3 dX6_goBest_10 rfl rfl ?_
        refine g_if_lt hC 80 dX6_goBest_11 (by decide) (fun h11t => ?_) (fun h11f => ?_)
        · rw [hj0, Nat.sub_zero, dearT_eq] at hx
          by_cases he : dear P g (nI k) nq = none
          · have elv : x = -9 := by rw [hx, he]; rfl
            refine g_lve (congrArg (fun zz : Int32 => ([(0, .ref mo), (1, .int (nI k)), (2, .int zz), (3, .int (nI j - nI 1))] : List (Nat × Value))) elv) ?_
            refine g_iload_n hC 2 dX6_goBest_80 rfl rfl ?_
            refine g_bipush (v := (-9)) hC dX6_goBest_81 (by decide +kernel) ?_
            refine g_icmp_eq hC 107 dX6_goBest_83 (by decide) (fun h83t => ?_) (fun h83f => ?_)
            · have ecell : (mp g) = (mp (bestF P nq g (nI k))) := by rw [bestF, he]
              refine g_ws (ws2 := [(mo, o6 rm (nI tl) pl (nI np) (nI nq) (nI nd) rt rp rq rd (nI cnt) (nI na) sd rw rx tm tf sm sf), (rm 1, .inl (cI, 5, .inl (fun k_ => nI (P 0 k_)))), (rm 2, .inl (cI, 5, .inl (fun k_ => nI (P 1 k_)))), (rm 11, .inl (cI, 20, .inl (mp (bestF P nq g (nI k)))))]) (congrArg (fun zz : Nat → Int32 => ([(mo, o6 rm (nI tl) pl (nI np) (nI nq) (nI nd) rt rp rq rd (nI cnt) (nI na) sd rw rx tm tf sm sf), (rm 1, .inl (cI, 5, .inl (fun k_ => nI (P 0 k_)))), (rm 2, .inl (cI, 5, .inl (fun k_ => nI (P 1 k_)))), (rm 11, .inl (cI, 20, .inl zz))] : va_W)) ecell) ?_
              subst hQ
              refine g_vret hC () hr ?_ rfl dX6_goBest_107
              trivial
            exact absurd rfl h83f
          obtain ⟨b, hb⟩ := Option.ne_none_iff_exists'.mp he
          have hbl := dear_lt P g (nI k) nq b hb
          have elv : x = nI b := by rw [hx, hb]; rfl
          refine g_lve (congrArg (fun zz : Int32 => ([(0, .ref mo), (1, .int (nI k)), (2, .int zz), (3, .int (nI j - nI 1))] : List (Nat × Value))) elv) ?_
          refine g_iload_n hC 2 dX6_goBest_80 rfl rfl ?_
          refine g_bipush (v := (-9)) hC dX6_goBest_81 (by decide +kernel) ?_
          refine g_icmp_eq hC 107 dX6_goBest_83 (by decide) (fun h83t => ?_) (fun h83f => ?_)
          · exact absurd h83t (nI_ne9 (by omega))
          refine g_aload_n hC 0 dX6_goBest_86 rfl rfl ?_
          refine g_aload_n hC 0 dX6_goBest_87 rfl rfl ?_
          refine g_get (C := RX6) (T := TX6) (N := 38) (ci := 6) (v := .ref (rm 11)) hC hcw6 0 rfl rfl 21 (by decide) w3 (fun _ h => h) rfl dX6_goBest_88 ?_
          refine g_iload_n hC 2 dX6_goBest_91 rfl rfl ?_
          refine g_callVip (As := [.ref (rm 11), .int (nI b)]) (rest := []) hC (bI (canP P g b)) (c_X6_canPledge l D cI cZ mo rm tl pl np nq nd rt rp rq rd cnt na sd rw rx tm tf sm sf P (rm 11) g b (by first | assumption | omega) (by first | assumption | omega)) (cwV 2 hC.1.2.2.2.2 gX6_goBest_X6_canPledge rfl rfl rfl dV_X6_canPledge ⟨Nat.le_of_ble_eq_true rfl, Nat.le_of_ble_eq_true rfl⟩) rfl rfl rfl rfl (Nat.le_of_ble_eq_true rfl) dX6_goBest_92 ⟨Nat.le_of_ble_eq_true rfl, Nat.le_of_ble_eq_true rfl⟩ [0, 2, 3] rfl rfl ?_
          refine g_if_eq_b hC 107 dX6_goBest_95 (by decide) (fun h95t => ?_) (fun h95f => ?_)
          · have ecell : (mp g) = (mp (bestF P nq g (nI k))) := by rw [bestF, hb]; show mp _ = mp (tryP P g b); rw [tryP, if_neg h95t]
            refine g_ws (ws2 := [(mo, o6 rm (nI tl) pl (nI np) (nI nq) (nI nd) rt rp rq rd (nI cnt) (nI na) sd rw rx tm tf sm sf), (rm 1, .inl (cI, 5, .inl (fun k_ => nI (P 0 k_)))), (rm 2, .inl (cI, 5, .inl (fun k_ => nI (P 1 k_)))), (rm 11, .inl (cI, 20, .inl (mp (bestF P nq g (nI k)))))]) (congrArg (fun zz : Nat → Int32 => ([(mo, o6 rm (nI tl) pl (nI np) (nI nq) (nI nd) rt rp rq rd (nI cnt) (nI na) sd rw rx tm tf sm sf), (rm 1, .inl (cI, 5, .inl (fun k_ => nI (P 0 k_)))), (rm 2, .inl (cI, 5, .inl (fun k_ => nI (P 1 k_)))), (rm 11, .inl (cI, 20, .inl zz))] : va_W)) ecell) ?_
            subst hQ
            refine g_vret hC () hr ?_ rfl dX6_goBest_107
            trivial
          refine g_aload_n hC 0 dX6_goBest_98 rfl rfl ?_
          refine g_aload_n hC 0 dX6_goBest_99 rfl rfl ?_
          refine g_get (C := RX6) (T := TX6) (N := 38) (ci := 6) (v := .ref (rm 11)) hC hcw6 0 rfl rfl 21 (by decide) w3 (fun _ h => h) rfl dX6_goBest_100 ?_
          refine g_iload_n hC 2 dX6_goBest_103 rfl rfl ?_
          refine g_callVv (As := [.ref (rm 11), .int (nI b)]) (rest := []) hC (c_X6_goPledge l D cI cZ mo rm tl pl np nq nd rt rp rq rd cnt na sd rw rx tm tf sm sf P (rm 11) g b (by first | assumption | omega) (by first | assumption | omega)) (cwV 2 hC.1.2.2.2.2 gX6_goBest_X6_goPledge rfl rfl rfl dV_X6_goPledge ⟨Nat.le_of_ble_eq_true rfl, Nat.le_of_ble_eq_true rfl⟩) rfl rfl rfl rfl (Nat.le_of_ble_eq_true rfl) dX6_goBest_104 ⟨Nat.le_of_ble_eq_true rfl, Nat.le_of_ble_eq_true rfl⟩ [0, 1, 2, 3] [] [0, 1, 2, 3] (fun (_ : Unit) => [(mo, o6 rm (nI tl) pl (nI np) (nI nq) (nI nd) rt rp rq rd (nI cnt) (nI na) sd rw rx tm tf sm sf), (rm 1, .inl (cI, 5, .inl (fun k_ => nI (P 0 k_)))), (rm 2, .inl (cI, 5, .inl (fun k_ => nI (P 1 k_)))), ((rm 11), .inl (cI, 20, .inl (mp (pledgeF P g b))))]) rfl rfl rfl (fun _ => rfl) (fun z104 hp104 => ?_)
          refine g_is (ws2 := [(mo, o6 rm (nI tl) pl (nI np) (nI nq) (nI nd) rt rp rq rd (nI cnt) (nI na) sd rw rx tm tf sm sf), (rm 1, .inl (cI, 5, .inl (fun k_ => nI (P 0 k_)))), (rm 2, .inl (cI, 5, .inl (fun k_ => nI (P 1 k_)))), ((rm 11), .inl (cI, 20, .inl (mp (pledgeF P g b))))]) (lv2 := [(0, .ref mo), (1, .int (nI k)), (2, .int (nI b)), (3, .int (nI j - nI 1))]) (st2 := []) rfl rfl rfl ?_
          have ecell : (mp (pledgeF P g b)) = (mp (bestF P nq g (nI k))) := by rw [bestF, hb]; show mp _ = mp (tryP P g b); rw [tryP, if_pos h95f]
          refine g_ws (ws2 := [(mo, o6 rm (nI tl) pl (nI np) (nI nq) (nI nd) rt rp rq rd (nI cnt) (nI na) sd rw rx tm tf sm sf), (rm 1, .inl (cI, 5, .inl (fun k_ => nI (P 0 k_)))), (rm 2, .inl (cI, 5, .inl (fun k_ => nI (P 1 k_)))), ((rm 11), .inl (cI, 20, .inl (mp (bestF P nq g (nI k)))))]) (congrArg (fun zz : Nat → Int32 => ([(mo, o6 rm (nI tl) pl (nI np) (nI nq) (nI nd) rt rp rq rd (nI cnt) (nI na) sd rw rx tm tf sm sf), (rm 1, .inl (cI, 5, .inl (fun k_ => nI (P 0 k_)))), (rm 2, .inl (cI, 5, .inl (fun k_ => nI (P 1 k_)))), ((rm 11), .inl (cI, 20, .inl zz))] : va_W)) ecell) ?_
          subst hQ
          refine g_vret hC () hr ?_ rfl dX6_goBest_107
          trivial
        exact absurd (by rw [hj0]; decide) h11f
      obtain ⟨j1, rfl⟩ : ∃ y, j = y + 1 := ⟨j - 1, by omega⟩
      have elv : (nI (j1 + 1) - nI 1) = nI j1 := by exact (pk_sub (by omega)).trans (by rw [Nat.add_sub_cancel])
      refine g_lve (congrArg (fun zz : Int32 => ([(0, .ref mo), (1, .int (nI k)), (2, .int x), (3, .int zz)] : List (Nat × Value))) elv) ?_
      refine g_iload_n hC 3 dX6_goBest_10 rfl rfl ?_
      refine g_if_lt_n (a := j1) hC (by omega) 80 dX6_goBest_11 (by decide) (fun q => q.elim) (fun _ => ?_)
      obtain ⟨ho3, hw1, hw9, hk3⟩ := hq4 j1 (by omega)
      refine g_aload_n hC 0 dX6_goBest_14 rfl rfl ?_
      refine g_get (C := RX6) (T := TX6) (N := 38) (ci := 6) (v := .ref (rm 1)) hC hcw6 0 rfl rfl 6 (by decide) w2 (fun _ h => h) rfl dX6_goBest_15 ?_
      refine g_iload_n hC 3 dX6_goBest_18 rfl rfl ?_
      refine g_iald hC 1 rfl j1 rfl (by omega) (by decide) dX6_goBest_19 ?_
      refine g_iload_n hC 1 dX6_goBest_20 rfl rfl ?_
      refine g_icmp_ne_n (a := (P 0 j1)) (b := k) hC (by omega) (by omega) 39 dX6_goBest_21 (by decide) (fun h21t => ?_) (fun h21f => ?_)
      · refine g_iconst (v := nI 0) hC dX6_goBest_39 rfl ?_
        refine g_istore (lv' := [(0, .ref mo), (1, .int (nI k)), (2, .int x), (3, .int (nI j1)), (4, .int (nI 0))]) hC [1, 2, 3, 4, 0] dX6_goBest_40 (by decide) rfl ?_
        refine g_iload hC 4 dX6_goBest_42 rfl ?_
        refine g_if_eq_n (a := 0) hC (by omega) 72 dX6_goBest_44 (by decide) (fun _ => ?_) (fun q => absurd q (by decide))
        refine g_iload_n hC 2 dX6_goBest_72 rfl rfl ?_
        refine g_istore_n (lv' := [(0, .ref mo), (1, .int (nI k)), (2, .int x), (3, .int (nI j1)), (4, .int (nI 0))]) hC [1, 2, 0, 3, 4] dX6_goBest_73 rfl (by decide) rfl ?_
        have elv : (nI j1) = nI j1 := by rfl
        refine g_lve (congrArg (fun zz : Int32 => ([(0, .ref mo), (1, .int (nI k)), (2, .int x), (3, .int zz), (4, .int (nI 0))] : List (Nat × Value))) elv) ?_
        refine g_iinc (v := nI j1 + (-1)) (lv' := [(0, .ref mo), (1, .int (nI k)), (2, .int x), (3, .int (nI j1 + (-1))), (4, .int (nI 0))]) hC 3 [1, 2, 3, 0, 4] dX6_goBest_74 rfl rfl (by decide) rfl ?_
        refine g_goto hC 10 dX6_goBest_77 (by decide) ?_
        have elv : (nI j1 + (-1)) = nI j1 - nI 1 := by rw [Int32.sub_eq_add_neg]; rfl
        refine g_lve (congrArg (fun zz : Int32 => ([(0, .ref mo), (1, .int (nI k)), (2, .int x), (3, .int zz), (4, .int (nI 0))] : List (Nat × Value))) elv) ?_
        refine g_lv [0, 1, 2, 3] (lv2 := [(0, .ref mo), (1, .int (nI k)), (2, .int x), (3, .int (nI j1 - nI 1))]) rfl ?_
        refine ih10 j1 x ?_ ?_ ?_
        · omega
        · rw [dearT_n (by omega) (fun q => h21t ((nI_eq (by omega) (by omega)).mp q.1))]; exact hx
        · omega
      refine g_aload_n hC 0 dX6_goBest_24 rfl rfl ?_
      refine g_get (C := RX6) (T := TX6) (N := 38) (ci := 6) (v := .ref (rm 11)) hC hcw6 0 rfl rfl 21 (by decide) w3 (fun _ h => h) rfl dX6_goBest_25 ?_
      refine g_iconst (v := nI 4) hC dX6_goBest_28 rfl ?_
      refine g_iload_n hC 3 dX6_goBest_29 rfl rfl ?_
      refine g_iadd_n (a := 4) (b := j1) hC dX6_goBest_30 ?_
      refine g_iald hC 3 rfl (4 + j1) rfl (by omega) (by decide) dX6_goBest_31 ?_
      refine g_top (y := g (5 + j1)) (mp_4 _ (by omega)) ?_
      refine g_if_ne hC 39 dX6_goBest_32 (by decide) (fun h32t => ?_) (fun h32f => ?_)
      · refine g_iconst (v := nI 0) hC dX6_goBest_39 rfl ?_
        refine g_istore (lv' := [(0, .ref mo), (1, .int (nI k)), (2, .int x), (3, .int (nI j1)), (4, .int (nI 0))]) hC [1, 2, 3, 4, 0] dX6_goBest_40 (by decide) rfl ?_
        refine g_iload hC 4 dX6_goBest_42 rfl ?_
        refine g_if_eq_n (a := 0) hC (by omega) 72 dX6_goBest_44 (by decide) (fun _ => ?_) (fun q => absurd q (by decide))
        refine g_iload_n hC 2 dX6_goBest_72 rfl rfl ?_
        refine g_istore_n (lv' := [(0, .ref mo), (1, .int (nI k)), (2, .int x), (3, .int (nI j1)), (4, .int (nI 0))]) hC [1, 2, 0, 3, 4] dX6_goBest_73 rfl (by decide) rfl ?_
        have elv : (nI j1) = nI j1 := by rfl
        refine g_lve (congrArg (fun zz : Int32 => ([(0, .ref mo), (1, .int (nI k)), (2, .int x), (3, .int zz), (4, .int (nI 0))] : List (Nat × Value))) elv) ?_
        refine g_iinc (v := nI j1 + (-1)) (lv' := [(0, .ref mo), (1, .int (nI k)), (2, .int x), (3, .int (nI j1 + (-1))), (4, .int (nI 0))]) hC 3 [1, 2, 3, 0, 4] dX6_goBest_74 rfl rfl (by decide) rfl ?_
        refine g_goto hC 10 dX6_goBest_77 (by decide) ?_
        have elv : (nI j1 + (-1)) = nI j1 - nI 1 := by rw [Int32.sub_eq_add_neg]; rfl
        refine g_lve (congrArg (fun zz : Int32 => ([(0, .ref mo), (1, .int (nI k)), (2, .int x), (3, .int zz), (4, .int (nI 0))] : List (Nat × Value))) elv) ?_
        refine g_lv [0, 1, 2, 3] (lv2 := [(0, .ref mo), (1, .int (nI k)), (2, .int x), (3, .int (nI j1 - nI 1))]) rfl ?_
        refine ih10 j1 x ?_ ?_ ?_
        · omega
        · rw [dearT_n (by omega) (fun q => h32t q.2)]; exact hx
        · omega
      refine g_iconst (v := nI 1) hC dX6_goBest_35 rfl ?_
      refine g_goto hC 40 dX6_goBest_36 (by decide) ?_
      refine g_istore (lv' := [(0, .ref mo), (1, .int (nI k)), (2, .int x), (3, .int (nI j1)), (4, .int (nI 1))]) hC [1, 2, 3, 4, 0] dX6_goBest_40 (by decide) rfl ?_
      refine g_iload hC 4 dX6_goBest_42 rfl ?_
      refine g_if_eq_n (a := 1) hC (by omega) 72 dX6_goBest_44 (by decide) (fun q => absurd q (by decide)) (fun _ => ?_)
      by_cases hd : dearT P g (nI k) nq (nq - (j1 + 1)) = none
      · have elv : x = -9 := by rw [hx, hd]; rfl
        refine g_lve (congrArg (fun zz : Int32 => ([(0, .ref mo), (1, .int (nI k)), (2, .int zz), (3, .int (nI j1)), (4, .int (nI 1))] : List (Nat × Value))) elv) ?_
        refine g_iload_n hC 2 dX6_goBest_47 rfl rfl ?_
        refine g_bipush (v := (-9)) hC dX6_goBest_48 (by decide +kernel) ?_
        refine g_icmp_eq hC 68 dX6_goBest_50 (by decide) (fun h50t => ?_) (fun h50f => ?_)
        · refine g_iload_n hC 3 dX6_goBest_68 rfl rfl ?_
          refine g_goto hC 73 dX6_goBest_69 (by decide) ?_
          refine g_istore_n (lv' := [(0, .ref mo), (1, .int (nI k)), (2, .int (nI j1)), (3, .int (nI j1)), (4, .int (nI 1))]) hC [1, 2, 0, 3, 4] dX6_goBest_73 rfl (by decide) rfl ?_
          have elv : (nI j1) = nI j1 := by rfl
          refine g_lve (congrArg (fun zz : Int32 => ([(0, .ref mo), (1, .int (nI k)), (2, .int (nI j1)), (3, .int zz), (4, .int (nI 1))] : List (Nat × Value))) elv) ?_
          refine g_iinc (v := nI j1 + (-1)) (lv' := [(0, .ref mo), (1, .int (nI k)), (2, .int (nI j1)), (3, .int (nI j1 + (-1))), (4, .int (nI 1))]) hC 3 [1, 2, 3, 0, 4] dX6_goBest_74 rfl rfl (by decide) rfl ?_
          refine g_goto hC 10 dX6_goBest_77 (by decide) ?_
          have elv : (nI j1 + (-1)) = nI j1 - nI 1 := by rw [Int32.sub_eq_add_neg]; rfl
          refine g_lve (congrArg (fun zz : Int32 => ([(0, .ref mo), (1, .int (nI k)), (2, .int (nI j1)), (3, .int zz), (4, .int (nI 1))] : List (Nat × Value))) elv) ?_
          refine g_lv [0, 1, 2, 3] (lv2 := [(0, .ref mo), (1, .int (nI k)), (2, .int (nI j1)), (3, .int (nI j1 - nI 1))]) rfl ?_
          refine ih10 j1 (nI j1) ?_ ?_ ?_
          · omega
          · rw [dearT_y0 (by omega) ⟨by rw [h21f], h32f⟩ hd]; rfl
          · omega
        exact absurd rfl h50f
      obtain ⟨b, hb⟩ := Option.ne_none_iff_exists'.mp hd
      have hbl := dearT_b (by omega) hb
      have hwb := (hq4 b hbl).2.2.1
      have elv : x = nI b := by rw [hx, hb]; rfl
      refine g_lve (congrArg (fun zz : Int32 => ([(0, .ref mo), (1, .int (nI k)), (2, .int zz), (3, .int (nI j1)), (4, .int (nI 1))] : List (Nat × Value))) elv) ?_
      refine g_iload_n hC 2 dX6_goBest_47 rfl rfl ?_
      refine g_bipush (v := (-9)) hC dX6_goBest_48 (by decide +kernel) ?_
      refine g_icmp_eq hC 68 dX6_goBest_50 (by decide) (fun h50t => ?_) (fun h50f => ?_)
      · exact absurd h50t (nI_ne9 (by omega))
      refine g_aload_n hC 0 dX6_goBest_53 rfl rfl ?_
      refine g_get (C := RX6) (T := TX6) (N := 38) (ci := 6) (v := .ref (rm 2)) hC hcw6 0 rfl rfl 7 (by decide) w4 (fun _ h => h) rfl dX6_goBest_54 ?_
      refine g_iload_n hC 3 dX6_goBest_57 rfl rfl ?_
      refine g_iald hC 2 rfl j1 rfl (by omega) (by decide) dX6_goBest_58 ?_
      refine g_aload_n hC 0 dX6_goBest_59 rfl rfl ?_
      refine g_get (C := RX6) (T := TX6) (N := 38) (ci := 6) (v := .ref (rm 2)) hC hcw6 0 rfl rfl 7 (by decide) w4 (fun _ h => h) rfl dX6_goBest_60 ?_
      refine g_iload_n hC 2 dX6_goBest_63 rfl rfl ?_
      refine g_iald hC 2 rfl b rfl (by omega) (by decide) dX6_goBest_64 ?_
      refine g_icmp_lt_n (a := (P 1 j1)) (b := (P 1 b)) hC (by omega) (by omega) 72 dX6_goBest_65 (by decide) (fun h65t => ?_) (fun h65f => ?_)
      · refine g_iload_n hC 2 dX6_goBest_72 rfl rfl ?_
        refine g_istore_n (lv' := [(0, .ref mo), (1, .int (nI k)), (2, .int (nI b)), (3, .int (nI j1)), (4, .int (nI 1))]) hC [1, 2, 0, 3, 4] dX6_goBest_73 rfl (by decide) rfl ?_
        have elv : (nI j1) = nI j1 := by rfl
        refine g_lve (congrArg (fun zz : Int32 => ([(0, .ref mo), (1, .int (nI k)), (2, .int (nI b)), (3, .int zz), (4, .int (nI 1))] : List (Nat × Value))) elv) ?_
        refine g_iinc (v := nI j1 + (-1)) (lv' := [(0, .ref mo), (1, .int (nI k)), (2, .int (nI b)), (3, .int (nI j1 + (-1))), (4, .int (nI 1))]) hC 3 [1, 2, 3, 0, 4] dX6_goBest_74 rfl rfl (by decide) rfl ?_
        refine g_goto hC 10 dX6_goBest_77 (by decide) ?_
        have elv : (nI j1 + (-1)) = nI j1 - nI 1 := by rw [Int32.sub_eq_add_neg]; rfl
        refine g_lve (congrArg (fun zz : Int32 => ([(0, .ref mo), (1, .int (nI k)), (2, .int (nI b)), (3, .int zz), (4, .int (nI 1))] : List (Nat × Value))) elv) ?_
        refine g_lv [0, 1, 2, 3] (lv2 := [(0, .ref mo), (1, .int (nI k)), (2, .int (nI b)), (3, .int (nI j1 - nI 1))]) rfl ?_
        refine ih10 j1 (nI b) ?_ ?_ ?_
        · omega
        · rw [dearT_y2 (by omega) hb h65t]; rfl
        · omega
      refine g_iload_n hC 3 dX6_goBest_68 rfl rfl ?_
      refine g_goto hC 73 dX6_goBest_69 (by decide) ?_
      refine g_istore_n (lv' := [(0, .ref mo), (1, .int (nI k)), (2, .int (nI j1)), (3, .int (nI j1)), (4, .int (nI 1))]) hC [1, 2, 0, 3, 4] dX6_goBest_73 rfl (by decide) rfl ?_
      have elv : (nI j1) = nI j1 := by rfl
      refine g_lve (congrArg (fun zz : Int32 => ([(0, .ref mo), (1, .int (nI k)), (2, .int (nI j1)), (3, .int zz), (4, .int (nI 1))] : List (Nat × Value))) elv) ?_
      refine g_iinc (v := nI j1 + (-1)) (lv' := [(0, .ref mo), (1, .int (nI k)), (2, .int (nI j1)), (3, .int (nI j1 + (-1))), (4, .int (nI 1))]) hC 3 [1, 2, 3, 0, 4] dX6_goBest_74 rfl rfl (by decide) rfl ?_
      refine g_goto hC 10 dX6_goBest_77 (by decide) ?_
      have elv : (nI j1 + (-1)) = nI j1 - nI 1 := by rw [Int32.sub_eq_add_neg]; rfl
      refine g_lve (congrArg (fun zz : Int32 => ([(0, .ref mo), (1, .int (nI k)), (2, .int (nI j1)), (3, .int zz), (4, .int (nI 1))] : List (Nat × Value))) elv) ?_
      refine g_lv [0, 1, 2, 3] (lv2 := [(0, .ref mo), (1, .int (nI k)), (2, .int (nI j1)), (3, .int (nI j1 - nI 1))]) rfl ?_
      refine ih10 j1 (nI j1) ?_ ?_ ?_
      · omega
      · rw [dearT_y1 (by omega) ⟨by rw [h21f], h32f⟩ hb h65f]; rfl
      · omega
  refine L10 _ nq (-9) ?_ ?_ (Nat.lt_succ_self _)
  · omega
  · rw [Nat.sub_self]; rfl

abbrev rm_X6_rests : Room := { frames := 2, cells := 0, slots := 0, locals := 46 }
set_option maxRecDepth 100000 in
set_option maxHeartbeats 16000000 in
theorem c_X6_rests (l : Launch) (D : va_G) (cI cZ : ClassId) (mo : Nat) (rm : Nat → Nat) (tl : Nat) (pl : Int32) (np : Nat) (nq : Nat) (nd : Nat) (rt : Int32) (rp : Int32) (rq : Int32) (rd : Int32) (cnt : Nat) (na : Nat) (sd : Int64) (rw : Int32) (rx : Int32) (tm : Int32) (tf : Int32) (sm : Int32) (sf : Int32) (P : Nat → Nat → Nat) (c : Nat → Int32) (g : Nat → Int32) (t : Nat) (ga : Nat → Int32) (a : Int32) (b : Int32) (w : Int32) (hW : WFP np nq nd P) (hFr : Fr P nd c t) (ht : t ≤ 200) : CtI l yX6_rests wsX6_rests rm_X6_rests D cI cZ [.ref mo, .int a, .int b, .int w] [(mo, o6 rm (nI tl) pl (nI np) (nI nq) (nI nd) rt rp rq rd (nI cnt) (nI na) sd rw rx tm tf sm sf), (rm 1, .inl (cI, 5, .inl (fun k_ => nI (P 0 k_)))), (rm 2, .inl (cI, 5, .inl (fun k_ => nI (P 1 k_)))), (rm 3, .inl (cI, 5, .inl (fun k_ => nI (P 2 k_)))), (rm 4, .inl (cI, 5, .inl (fun k_ => nI (P 3 k_)))), (rm 5, .inl (cI, 5, .inl (fun k_ => nI (P 4 k_)))), (rm 6, .inl (cI, 5, .inl (fun k_ => nI (P 5 k_)))), (rm 10, .inl (cI, 20, .inl (mp c))), (rm 11, .inl (cI, 20, .inl (mp g))), (rm 17, .inl (cI, 8, .inl ga))] (fun (r : Int32) (z : (Nat → Int32) × (Nat → Int32) × Int32 × Int32) => match z with | (g2, ga2, sm2, sf2) => r = restsR np nq nd P c a b w) (fun (z : (Nat → Int32) × (Nat → Int32) × Int32 × Int32) => match z with | (g2, ga2, sm2, sf2) => [(mo, o6 rm (nI tl) pl (nI np) (nI nq) (nI nd) rt rp rq rd (nI cnt) (nI na) sd rw rx tm tf sm2 sf2), (rm 1, .inl (cI, 5, .inl (fun k_ => nI (P 0 k_)))), (rm 2, .inl (cI, 5, .inl (fun k_ => nI (P 1 k_)))), (rm 3, .inl (cI, 5, .inl (fun k_ => nI (P 2 k_)))), (rm 4, .inl (cI, 5, .inl (fun k_ => nI (P 3 k_)))), (rm 5, .inl (cI, 5, .inl (fun k_ => nI (P 4 k_)))), (rm 6, .inl (cI, 5, .inl (fun k_ => nI (P 5 k_)))), (rm 10, .inl (cI, 20, .inl (mp c))), (rm 11, .inl (cI, 20, .inl (mp g2))), (rm 17, .inl (cI, 8, .inl ga2))]) 0 0 := by
  refine g_startI (ret := (some .int)) (own := RX6) (lv0 := [(0, .ref mo), (1, .int a), (2, .int b), (3, .int w)]) (by decide) rfl rfl (Nat.le_of_ble_eq_true rfl) rfl ?_
  intro p e s m args below meth cd A Q hin hr hQ hC
  have hcw6 : ∀ w ∈ wsX60, w ∈ wsX6_rests := fun _ h => List.mem_cons_of_mem _ (List.mem_append_right _ h)
  have w1 := hC.1.2.2.2.2 (.fieldLink "PluckBrokerModel" 68 "PluckBrokerModel" "thrown" "I") (List.mem_of_getElem? (i := 1) rfl)
  have w2 := hC.1.2.2.2.2 (.fieldLink "PluckBrokerModel" 43 "PluckBrokerModel" "trial" "[I") (List.mem_of_getElem? (i := 2) rfl)
  have w3 := hC.1.2.2.2.2 (.fieldLink "PluckBrokerModel" 62 "PluckBrokerModel" "gains" "[I") (List.mem_of_getElem? (i := 3) rfl)
  have w4 := hC.1.2.2.2.2 (.fieldLink "PluckBrokerModel" 253 "PluckBrokerModel" "restMany" "I") (List.mem_of_getElem? (i := 4) rfl)
  have w5 := hC.1.2.2.2.2 (.fieldLink "PluckBrokerModel" 256 "PluckBrokerModel" "restFirst" "I") (List.mem_of_getElem? (i := 5) rfl)
  obtain ⟨⟨hnp, hnq, hnd⟩, hq4, hd5⟩ := id hW
  have hdo : ∀ k, deedsB nd P (nI k) < 32 := fun k => bts_le hnd
  refine g_aload_n hC 0 dX6_rests_0 rfl rfl ?_
  refine g_iconst (v := nI 0) hC dX6_rests_1 rfl ?_
  refine g_put (C := RX6) (T := TX6) (N := 38) (ci := 6) (v := .int (nI 0)) hC hcw6 tyX6 tyX6_ok nmX6 0 rfl rfl 0 (by decide) w1 (fun _ h => h) rfl (tyX6_ok 0 (by decide)) rfl rfl (Nat.le_of_ble_eq_true rfl) [(mo, o6 rm (nI tl) pl (nI np) (nI nq) (nI nd) rt rp rq rd (nI cnt) (nI na) sd rw rx tm tf sm sf), (rm 1, .inl (cI, 5, .inl (fun k_ => nI (P 0 k_)))), (rm 2, .inl (cI, 5, .inl (fun k_ => nI (P 1 k_)))), (rm 3, .inl (cI, 5, .inl (fun k_ => nI (P 2 k_)))), (rm 4, .inl (cI, 5, .inl (fun k_ => nI (P 3 k_)))), (rm 5, .inl (cI, 5, .inl (fun k_ => nI (P 4 k_)))), (rm 6, .inl (cI, 5, .inl (fun k_ => nI (P 5 k_)))), (rm 10, .inl (cI, 20, .inl (mp c))), (rm 11, .inl (cI, 20, .inl (mp g))), (rm 17, .inl (cI, 8, .inl ga))] rfl dX6_rests_2 ?_
  refine g_aload_n hC 0 dX6_rests_5 rfl rfl ?_
  refine g_iload_n hC 1 dX6_rests_6 rfl rfl ?_
  refine g_callVip (As := [.int a]) (rest := []) hC (bI (¬ inR a np)) (c_X6_noPerson l D cI cZ mo rm tl pl np nq nd rt rp rq rd cnt na sd rw rx tm tf sm sf a (by omega)) (cwV 1 hC.1.2.2.2.2 gX6_rests_X6_noPerson rfl rfl rfl dV_X6_noPerson ⟨Nat.le_of_ble_eq_true rfl, Nat.le_of_ble_eq_true rfl⟩) rfl rfl rfl rfl (Nat.le_of_ble_eq_true rfl) dX6_rests_7 ⟨Nat.le_of_ble_eq_true rfl, Nat.le_of_ble_eq_true rfl⟩ [0] rfl rfl ?_
  refine g_if_ne_b hC 21 dX6_rests_10 (by decide) (fun h10t => ?_) (fun h10f => ?_)
  · refine g_iconst (v := (-1)) hC dX6_rests_21 rfl ?_
    subst hQ
    refine g_iret (v := -1) hC (g, ga, sm, sf) hr ?_ rfl dX6_rests_22
    rw [restsR, if_neg (fun q => h10t q.1)]
  obtain ⟨k, hk, rfl⟩ := inR_n (by omega) (Decidable.not_not.mp h10f)
  have hin1 := inR_k (n := np) (by omega) hk
  have hKk : K (nI k) = k := K_n (by omega)
  refine g_aload_n hC 0 dX6_rests_13 rfl rfl ?_
  refine g_iload_n hC 2 dX6_rests_14 rfl rfl ?_
  refine g_callVip (As := [.int b]) (rest := []) hC (bI (¬ inR b np)) (c_X6_noPerson l D cI cZ mo rm tl pl np nq nd rt rp rq rd cnt na sd rw rx tm tf sm sf b (by omega)) (cwV 1 hC.1.2.2.2.2 gX6_rests_X6_noPerson rfl rfl rfl dV_X6_noPerson ⟨Nat.le_of_ble_eq_true rfl, Nat.le_of_ble_eq_true rfl⟩) rfl rfl rfl rfl (Nat.le_of_ble_eq_true rfl) dX6_rests_15 ⟨Nat.le_of_ble_eq_true rfl, Nat.le_of_ble_eq_true rfl⟩ [0] rfl rfl ?_
  refine g_if_eq_b hC 23 dX6_rests_18 (by decide) (fun h18t => ?_) (fun h18f => ?_)
  · obtain ⟨k2, hk2, rfl⟩ := inR_n (by omega) (Decidable.not_not.mp h18t)
    have hin2 := inR_k (n := np) (by omega) hk2
    have hKk2 : K (nI k2) = k2 := K_n (by omega)
    refine g_iload_n hC 1 dX6_rests_23 rfl rfl ?_
    refine g_iload_n hC 2 dX6_rests_24 rfl rfl ?_
    refine g_icmp_eq_n (a := k) (b := k2) hC (by omega) (by omega) 38 dX6_rests_25 (by decide) (fun h25t => ?_) (fun h25f => ?_)
    · refine g_bipush (v := (-2)) hC dX6_rests_38 (by decide +kernel) ?_
      subst hQ
      refine g_iret (v := -2) hC (g, ga, sm, sf) hr ?_ rfl dX6_rests_40
      rw [restsR, if_pos ⟨hin1, hin2⟩, if_neg (fun q => q.1 (by rw [h25t]))]
    refine g_iload_n hC 3 dX6_rests_28 rfl rfl ?_
    refine g_i2l hC dX6_rests_29 rfl ?_
    refine g_lconst (v := (nI 0).toInt64) hC dX6_rests_30 (by decide +kernel) ?_
    refine g_lconst (v := (nI 1).toInt64) hC dX6_rests_31 (by decide +kernel) ?_
    refine g_callSip (As := [.long w.toInt64, .long ((nI 0).toInt64), .long ((nI 1).toInt64)]) (rest := []) hC (bI ((nI 0) ≤ w ∧ w ≤ (nI 1))) (c_X6_in l D cI cZ w (nI 0) (nI 1)) (va_cwS 3 hC.1.2.2.2.2 gX6_rests_X6_in rfl rfl rfl dS_X6_in ⟨Nat.le_of_ble_eq_true rfl, Nat.le_of_ble_eq_true rfl⟩) rfl rfl (Nat.le_of_ble_eq_true rfl) dX6_rests_32 ⟨Nat.le_of_ble_eq_true rfl, Nat.le_of_ble_eq_true rfl⟩ [] rfl rfl ?_
    refine g_if_ne_b hC 41 dX6_rests_35 (by decide) (fun h35t => ?_) (fun h35f => ?_)
    · have okw : okC w := h35t
      obtain ⟨wn, hwn, rfl⟩ := ok_n (M := 1) (by decide) okw
      refine g_iconst (v := nI 0) hC dX6_rests_41 rfl ?_
      refine g_istore (lv' := [(0, .ref mo), (1, .int (nI k)), (2, .int (nI k2)), (3, .int (nI wn)), (4, .int (nI 0))]) hC [1, 2, 3, 4, 0] dX6_rests_42 (by decide) rfl ?_
      have L44 : ∀ (n : Nat) (i : Nat) (gg : Nat → Int32) (gn : Nat → Int32), (i ≤ 4) → (∀ j, j < i → gn (2 * j) = gainF P nq nd c k k k2 j ∧ gn (2 * j + 1) = gainF P nq nd c k2 k k2 j) → 4 - i < n → G p l e rm_X6_rests s m args below meth cd D A 0 0 Q 8 [(mo, o6 rm (nI tl) pl (nI np) (nI nq) (nI nd) rt rp rq rd (nI cnt) (nI na) sd rw rx tm tf sm sf), (rm 1, .inl (cI, 5, .inl (fun k_ => nI (P 0 k_)))), (rm 2, .inl (cI, 5, .inl (fun k_ => nI (P 1 k_)))), (rm 3, .inl (cI, 5, .inl (fun k_ => nI (P 2 k_)))), (rm 4, .inl (cI, 5, .inl (fun k_ => nI (P 3 k_)))), (rm 5, .inl (cI, 5, .inl (fun k_ => nI (P 4 k_)))), (rm 6, .inl (cI, 5, .inl (fun k_ => nI (P 5 k_)))), (rm 10, .inl (cI, 20, .inl (mp c))), (rm 11, .inl (cI, 20, .inl (mp gg))), (rm 17, .inl (cI, 8, .inl gn))] 44 [(0, .ref mo), (1, .int (nI k)), (2, .int (nI k2)), (3, .int (nI wn)), (4, .int (nI i))] [] := by
        intro n
        induction n with
        | zero => intro i gg gn hi hgn hn; exact absurd hn (Nat.not_lt_zero _)
        | succ n ih44 =>
          intro i gg gn hi hgn hn
          refine g_iload hC 4 dX6_rests_44 rfl ?_
          refine g_iconst (v := nI 4) hC dX6_rests_46 rfl ?_
          refine g_icmp_ge_n (a := i) (b := 4) hC (by omega) (by omega) 175 dX6_rests_47 (by decide) (fun h47t => ?_) (fun h47f => ?_)
          · have ei : i = 4 := by omega
            rw [ei] at hgn
            refine g_aload_n hC 0 dX6_rests_175 rfl rfl ?_
            refine g_iconst (v := nI 0) hC dX6_rests_176 rfl ?_
            refine g_put (C := RX6) (T := TX6) (N := 38) (ci := 6) (v := .int (nI 0)) hC hcw6 tyX6 tyX6_ok nmX6 0 rfl rfl 34 (by decide) w4 (fun _ h => h) rfl (tyX6_ok 34 (by decide)) rfl rfl (Nat.le_of_ble_eq_true rfl) [(mo, o6 rm (nI tl) pl (nI np) (nI nq) (nI nd) rt rp rq rd (nI cnt) (nI na) sd rw rx tm tf (nI 0) sf), (rm 1, .inl (cI, 5, .inl (fun k_ => nI (P 0 k_)))), (rm 2, .inl (cI, 5, .inl (fun k_ => nI (P 1 k_)))), (rm 3, .inl (cI, 5, .inl (fun k_ => nI (P 2 k_)))), (rm 4, .inl (cI, 5, .inl (fun k_ => nI (P 3 k_)))), (rm 5, .inl (cI, 5, .inl (fun k_ => nI (P 4 k_)))), (rm 6, .inl (cI, 5, .inl (fun k_ => nI (P 5 k_)))), (rm 10, .inl (cI, 20, .inl (mp c))), (rm 11, .inl (cI, 20, .inl (mp gg))), (rm 17, .inl (cI, 8, .inl gn))] rfl dX6_rests_177 ?_
            refine g_aload_n hC 0 dX6_rests_180 rfl rfl ?_
            refine g_bipush (v := (-9)) hC dX6_rests_181 (by decide +kernel) ?_
            refine g_put (C := RX6) (T := TX6) (N := 38) (ci := 6) (v := .int (-9)) hC hcw6 tyX6 tyX6_ok nmX6 0 rfl rfl 35 (by decide) w5 (fun _ h => h) rfl (tyX6_ok 35 (by decide)) rfl rfl (Nat.le_of_ble_eq_true rfl) [(mo, o6 rm (nI tl) pl (nI np) (nI nq) (nI nd) rt rp rq rd (nI cnt) (nI na) sd rw rx tm tf (nI 0) (-9)), (rm 1, .inl (cI, 5, .inl (fun k_ => nI (P 0 k_)))), (rm 2, .inl (cI, 5, .inl (fun k_ => nI (P 1 k_)))), (rm 3, .inl (cI, 5, .inl (fun k_ => nI (P 2 k_)))), (rm 4, .inl (cI, 5, .inl (fun k_ => nI (P 3 k_)))), (rm 5, .inl (cI, 5, .inl (fun k_ => nI (P 4 k_)))), (rm 6, .inl (cI, 5, .inl (fun k_ => nI (P 5 k_)))), (rm 10, .inl (cI, 20, .inl (mp c))), (rm 11, .inl (cI, 20, .inl (mp gg))), (rm 17, .inl (cI, 8, .inl gn))] rfl dX6_rests_183 ?_
            refine g_iconst (v := nI 0) hC dX6_rests_186 rfl ?_
            refine g_istore (lv' := [(0, .ref mo), (1, .int (nI k)), (2, .int (nI k2)), (3, .int (nI wn)), (4, .int (nI 0))]) hC [1, 2, 3, 4, 0] dX6_rests_187 (by decide) rfl ?_
            have L189 : ∀ (n : Nat) (i : Nat) (fo : Nat) (x : Int32), (i ≤ 4) → (fo ≤ i) → (fo = reN P nq nd c k k2 i) → (x = reF P nq nd c k k2 i) → 4 - i < n → G p l e rm_X6_rests s m args below meth cd D A 0 0 Q 8 [(mo, o6 rm (nI tl) pl (nI np) (nI nq) (nI nd) rt rp rq rd (nI cnt) (nI na) sd rw rx tm tf (nI fo) x), (rm 1, .inl (cI, 5, .inl (fun k_ => nI (P 0 k_)))), (rm 2, .inl (cI, 5, .inl (fun k_ => nI (P 1 k_)))), (rm 3, .inl (cI, 5, .inl (fun k_ => nI (P 2 k_)))), (rm 4, .inl (cI, 5, .inl (fun k_ => nI (P 3 k_)))), (rm 5, .inl (cI, 5, .inl (fun k_ => nI (P 4 k_)))), (rm 6, .inl (cI, 5, .inl (fun k_ => nI (P 5 k_)))), (rm 10, .inl (cI, 20, .inl (mp c))), (rm 11, .inl (cI, 20, .inl (mp gg))), (rm 17, .inl (cI, 8, .inl gn))] 189 [(0, .ref mo), (1, .int (nI k)), (2, .int (nI k2)), (3, .int (nI wn)), (4, .int (nI i))] [] := by
              intro n
              induction n with
              | zero => intro i fo x hi hfo hf hx hn; exact absurd hn (Nat.not_lt_zero _)
              | succ n ih189 =>
                intro i fo x hi hfo hf hx hn
                refine g_iload hC 4 dX6_rests_189 rfl ?_
                refine g_iconst (v := nI 4) hC dX6_rests_191 rfl ?_
                refine g_icmp_ge_n (a := i) (b := 4) hC (by omega) (by omega) 312 dX6_rests_192 (by decide) (fun h192t => ?_) (fun h192f => ?_)
                · refine g_iload_n hC 3 dX6_rests_312 rfl rfl ?_
                  refine g_if_ne_n (a := wn) hC (by omega) 323 dX6_rests_313 (by decide) (fun h313t => ?_) (fun h313f => ?_)
                  · refine g_aload_n hC 0 dX6_rests_323 rfl rfl ?_
                    refine g_get (C := RX6) (T := TX6) (N := 38) (ci := 6) (v := .int x) hC hcw6 0 rfl rfl 35 (by decide) w5 (fun _ h => h) rfl dX6_rests_324 ?_
                    subst hQ
                    refine g_iret (v := x) hC (gg, gn, nI fo, x) hr ?_ rfl dX6_rests_327
                    have ei4 : i = 4 := by omega
                    rw [ei4] at hf hx
                    rw [restsR, if_pos ⟨hin1, hin2⟩, if_pos ⟨fun q => h25f ((nI_eq (by omega) (by omega)).mp q), okw⟩, hKk, hKk2, if_neg (fun q => h313t ((nI_eq (by omega) (by decide)).mp q))]; exact hx
                  refine g_aload_n hC 0 dX6_rests_316 rfl rfl ?_
                  refine g_get (C := RX6) (T := TX6) (N := 38) (ci := 6) (v := .int (nI fo)) hC hcw6 0 rfl rfl 34 (by decide) w4 (fun _ h => h) rfl dX6_rests_317 ?_
                  refine g_goto hC 327 dX6_rests_320 (by decide) ?_
                  subst hQ
                  refine g_iret (v := nI fo) hC (gg, gn, nI fo, x) hr ?_ rfl dX6_rests_327
                  have ei4 : i = 4 := by omega
                  rw [ei4] at hf hx
                  rw [restsR, if_pos ⟨hin1, hin2⟩, if_pos ⟨fun q => h25f ((nI_eq (by omega) (by omega)).mp q), okw⟩, hKk, hKk2, if_pos (by rw [h313f])]; rw [hf]
                refine g_aload_n hC 0 dX6_rests_195 rfl rfl ?_
                refine g_get (C := RX6) (T := TX6) (N := 38) (ci := 6) (v := .ref (rm 17)) hC hcw6 0 rfl rfl 36 (by decide) w3 (fun _ h => h) rfl dX6_rests_196 ?_
                refine g_iconst (v := nI 2) hC dX6_rests_199 rfl ?_
                refine g_iload hC 4 dX6_rests_200 rfl ?_
                refine g_iconst (v := nI 2) hC dX6_rests_202 rfl ?_
                refine g_ixor_n (a := i) (b := 2) hC dX6_rests_203 ?_
                refine g_imul_n (a := 2) (b := (i ^^^ 2)) hC dX6_rests_204 ?_
                refine g_iald hC 9 rfl (2 * (i ^^^ 2)) rfl (by have := xor4 (q := i) (x := 2) (by omega) (by decide); omega) (by decide) dX6_rests_205 ?_
                refine g_top (y := gainF P nq nd c k k k2 (i ^^^ 2)) ((hgn _ (xor4 (by omega) (by decide))).1) ?_
                refine g_aload_n hC 0 dX6_rests_206 rfl rfl ?_
                refine g_get (C := RX6) (T := TX6) (N := 38) (ci := 6) (v := .ref (rm 17)) hC hcw6 0 rfl rfl 36 (by decide) w3 (fun _ h => h) rfl dX6_rests_207 ?_
                refine g_iconst (v := nI 2) hC dX6_rests_210 rfl ?_
                refine g_iload hC 4 dX6_rests_211 rfl ?_
                refine g_imul_n (a := 2) (b := i) hC dX6_rests_213 ?_
                refine g_iald hC 9 rfl (2 * i) rfl (by omega) (by decide) dX6_rests_214 ?_
                refine g_top (y := gainF P nq nd c k k k2 i) ((hgn i (by omega)).1) ?_
                refine g_icmp_gt hC 249 dX6_rests_215 (by decide) (fun h215t => ?_) (fun h215f => ?_)
                · refine g_iconst (v := nI 0) hC dX6_rests_249 rfl ?_
                  refine g_istore (lv' := [(0, .ref mo), (1, .int (nI k)), (2, .int (nI k2)), (3, .int (nI wn)), (4, .int (nI i)), (5, .int (nI 0))]) hC [1, 2, 3, 4, 5, 0] dX6_rests_250 (by decide) rfl ?_
                  refine g_aload_n hC 0 dX6_rests_252 rfl rfl ?_
                  refine g_iload hC 5 dX6_rests_253 rfl ?_
                  refine g_if_eq_n (a := 0) hC (by omega) 280 dX6_rests_255 (by decide) (fun _ => ?_) (fun q => absurd q (by decide))
                  refine g_aload_n hC 0 dX6_rests_280 rfl rfl ?_
                  refine g_get (C := RX6) (T := TX6) (N := 38) (ci := 6) (v := .int x) hC hcw6 0 rfl rfl 35 (by decide) w5 (fun _ h => h) rfl dX6_rests_281 ?_
                  refine g_put (C := RX6) (T := TX6) (N := 38) (ci := 6) (v := .int x) hC hcw6 tyX6 tyX6_ok nmX6 0 rfl rfl 35 (by decide) w5 (fun _ h => h) rfl (tyX6_ok 35 (by decide)) rfl rfl (Nat.le_of_ble_eq_true rfl) [(mo, o6 rm (nI tl) pl (nI np) (nI nq) (nI nd) rt rp rq rd (nI cnt) (nI na) sd rw rx tm tf (nI fo) x), (rm 1, .inl (cI, 5, .inl (fun k_ => nI (P 0 k_)))), (rm 2, .inl (cI, 5, .inl (fun k_ => nI (P 1 k_)))), (rm 3, .inl (cI, 5, .inl (fun k_ => nI (P 2 k_)))), (rm 4, .inl (cI, 5, .inl (fun k_ => nI (P 3 k_)))), (rm 5, .inl (cI, 5, .inl (fun k_ => nI (P 4 k_)))), (rm 6, .inl (cI, 5, .inl (fun k_ => nI (P 5 k_)))), (rm 10, .inl (cI, 20, .inl (mp c))), (rm 11, .inl (cI, 20, .inl (mp gg))), (rm 17, .inl (cI, 8, .inl gn))] rfl dX6_rests_284 ?_
                  refine g_aload_n hC 0 dX6_rests_287 rfl rfl ?_
                  refine g_dup hC dX6_rests_288 rfl ?_
                  refine g_get (C := RX6) (T := TX6) (N := 38) (ci := 6) (v := .int (nI fo)) hC hcw6 0 rfl rfl 34 (by decide) w4 (fun _ h => h) rfl dX6_rests_289 ?_
                  refine g_iload hC 5 dX6_rests_292 rfl ?_
                  refine g_if_eq_n (a := 0) hC (by omega) 301 dX6_rests_294 (by decide) (fun _ => ?_) (fun q => absurd q (by decide))
                  refine g_iconst (v := nI 0) hC dX6_rests_301 rfl ?_
                  refine g_iadd_n (a := fo) (b := 0) hC dX6_rests_302 ?_
                  refine g_put (C := RX6) (T := TX6) (N := 38) (ci := 6) (v := .int (nI (fo + 0))) hC hcw6 tyX6 tyX6_ok nmX6 0 rfl rfl 34 (by decide) w4 (fun _ h => h) rfl (tyX6_ok 34 (by decide)) rfl rfl (Nat.le_of_ble_eq_true rfl) [(mo, o6 rm (nI tl) pl (nI np) (nI nq) (nI nd) rt rp rq rd (nI cnt) (nI na) sd rw rx tm tf (nI (fo + 0)) x), (rm 1, .inl (cI, 5, .inl (fun k_ => nI (P 0 k_)))), (rm 2, .inl (cI, 5, .inl (fun k_ => nI (P 1 k_)))), (rm 3, .inl (cI, 5, .inl (fun k_ => nI (P 2 k_)))), (rm 4, .inl (cI, 5, .inl (fun k_ => nI (P 3 k_)))), (rm 5, .inl (cI, 5, .inl (fun k_ => nI (P 4 k_)))), (rm 6, .inl (cI, 5, .inl (fun k_ => nI (P 5 k_)))), (rm 10, .inl (cI, 20, .inl (mp c))), (rm 11, .inl (cI, 20, .inl (mp gg))), (rm 17, .inl (cI, 8, .inl gn))] rfl dX6_rests_303 ?_
                  refine g_iinc (v := nI (i + 1)) (lv' := [(0, .ref mo), (1, .int (nI k)), (2, .int (nI k2)), (3, .int (nI wn)), (4, .int (nI (i + 1))), (5, .int (nI 0))]) hC 4 [1, 2, 3, 4, 0, 5] dX6_rests_306 rfl (nI_add _ 1) (by decide) rfl ?_
                  refine g_goto hC 189 dX6_rests_309 (by decide) ?_
                  refine g_lv [0, 1, 2, 3, 4] (lv2 := [(0, .ref mo), (1, .int (nI k)), (2, .int (nI k2)), (3, .int (nI wn)), (4, .int (nI (i + 1)))]) rfl ?_
                  refine ih189 (i + 1) (fo + 0) x ?_ ?_ ?_ ?_ ?_
                  · omega
                  · omega
                  · show _ = reN P nq nd c k k2 i + (if reOK P nq nd c k k2 i then 1 else 0)
                    rw [← hf, if_neg (fun w => absurd w.1 (Int32.not_le.mpr h215t))]
                  · show _ = (if reOK P nq nd c k k2 i ∧ reN P nq nd c k k2 i = 0 then nI (10 * (i / 2) + (i &&& 1)) else reF P nq nd c k k2 i)
                    rw [← hf, ← hx, if_neg (fun w => absurd w.1.1 (Int32.not_le.mpr h215t))]
                  · omega
                refine g_aload_n hC 0 dX6_rests_218 rfl rfl ?_
                refine g_get (C := RX6) (T := TX6) (N := 38) (ci := 6) (v := .ref (rm 17)) hC hcw6 0 rfl rfl 36 (by decide) w3 (fun _ h => h) rfl dX6_rests_219 ?_
                refine g_iconst (v := nI 2) hC dX6_rests_222 rfl ?_
                refine g_iload hC 4 dX6_rests_223 rfl ?_
                refine g_iconst (v := nI 1) hC dX6_rests_225 rfl ?_
                refine g_ixor_n (a := i) (b := 1) hC dX6_rests_226 ?_
                refine g_imul_n (a := 2) (b := (i ^^^ 1)) hC dX6_rests_227 ?_
                refine g_iconst (v := nI 1) hC dX6_rests_228 rfl ?_
                refine g_iadd_n (a := (2 * (i ^^^ 1))) (b := 1) hC dX6_rests_229 ?_
                refine g_iald hC 9 rfl (2 * (i ^^^ 1) + 1) rfl (by have := xor4 (q := i) (x := 1) (by omega) (by decide); omega) (by decide) dX6_rests_230 ?_
                refine g_top (y := gainF P nq nd c k2 k k2 (i ^^^ 1)) ((hgn _ (xor4 (by omega) (by decide))).2) ?_
                refine g_aload_n hC 0 dX6_rests_231 rfl rfl ?_
                refine g_get (C := RX6) (T := TX6) (N := 38) (ci := 6) (v := .ref (rm 17)) hC hcw6 0 rfl rfl 36 (by decide) w3 (fun _ h => h) rfl dX6_rests_232 ?_
                refine g_iconst (v := nI 2) hC dX6_rests_235 rfl ?_
                refine g_iload hC 4 dX6_rests_236 rfl ?_
                refine g_imul_n (a := 2) (b := i) hC dX6_rests_238 ?_
                refine g_iconst (v := nI 1) hC dX6_rests_239 rfl ?_
                refine g_iadd_n (a := (2 * i)) (b := 1) hC dX6_rests_240 ?_
                refine g_iald hC 9 rfl (2 * i + 1) rfl (by omega) (by decide) dX6_rests_241 ?_
                refine g_top (y := gainF P nq nd c k2 k k2 i) ((hgn i (by omega)).2) ?_
                refine g_icmp_gt hC 249 dX6_rests_242 (by decide) (fun h242t => ?_) (fun h242f => ?_)
                · refine g_iconst (v := nI 0) hC dX6_rests_249 rfl ?_
                  refine g_istore (lv' := [(0, .ref mo), (1, .int (nI k)), (2, .int (nI k2)), (3, .int (nI wn)), (4, .int (nI i)), (5, .int (nI 0))]) hC [1, 2, 3, 4, 5, 0] dX6_rests_250 (by decide) rfl ?_
                  refine g_aload_n hC 0 dX6_rests_252 rfl rfl ?_
                  refine g_iload hC 5 dX6_rests_253 rfl ?_
                  refine g_if_eq_n (a := 0) hC (by omega) 280 dX6_rests_255 (by decide) (fun _ => ?_) (fun q => absurd q (by decide))
                  refine g_aload_n hC 0 dX6_rests_280 rfl rfl ?_
                  refine g_get (C := RX6) (T := TX6) (N := 38) (ci := 6) (v := .int x) hC hcw6 0 rfl rfl 35 (by decide) w5 (fun _ h => h) rfl dX6_rests_281 ?_
                  refine g_put (C := RX6) (T := TX6) (N := 38) (ci := 6) (v := .int x) hC hcw6 tyX6 tyX6_ok nmX6 0 rfl rfl 35 (by decide) w5 (fun _ h => h) rfl (tyX6_ok 35 (by decide)) rfl rfl (Nat.le_of_ble_eq_true rfl) [(mo, o6 rm (nI tl) pl (nI np) (nI nq) (nI nd) rt rp rq rd (nI cnt) (nI na) sd rw rx tm tf (nI fo) x), (rm 1, .inl (cI, 5, .inl (fun k_ => nI (P 0 k_)))), (rm 2, .inl (cI, 5, .inl (fun k_ => nI (P 1 k_)))), (rm 3, .inl (cI, 5, .inl (fun k_ => nI (P 2 k_)))), (rm 4, .inl (cI, 5, .inl (fun k_ => nI (P 3 k_)))), (rm 5, .inl (cI, 5, .inl (fun k_ => nI (P 4 k_)))), (rm 6, .inl (cI, 5, .inl (fun k_ => nI (P 5 k_)))), (rm 10, .inl (cI, 20, .inl (mp c))), (rm 11, .inl (cI, 20, .inl (mp gg))), (rm 17, .inl (cI, 8, .inl gn))] rfl dX6_rests_284 ?_
                  refine g_aload_n hC 0 dX6_rests_287 rfl rfl ?_
                  refine g_dup hC dX6_rests_288 rfl ?_
                  refine g_get (C := RX6) (T := TX6) (N := 38) (ci := 6) (v := .int (nI fo)) hC hcw6 0 rfl rfl 34 (by decide) w4 (fun _ h => h) rfl dX6_rests_289 ?_
                  refine g_iload hC 5 dX6_rests_292 rfl ?_
                  refine g_if_eq_n (a := 0) hC (by omega) 301 dX6_rests_294 (by decide) (fun _ => ?_) (fun q => absurd q (by decide))
                  refine g_iconst (v := nI 0) hC dX6_rests_301 rfl ?_
                  refine g_iadd_n (a := fo) (b := 0) hC dX6_rests_302 ?_
                  refine g_put (C := RX6) (T := TX6) (N := 38) (ci := 6) (v := .int (nI (fo + 0))) hC hcw6 tyX6 tyX6_ok nmX6 0 rfl rfl 34 (by decide) w4 (fun _ h => h) rfl (tyX6_ok 34 (by decide)) rfl rfl (Nat.le_of_ble_eq_true rfl) [(mo, o6 rm (nI tl) pl (nI np) (nI nq) (nI nd) rt rp rq rd (nI cnt) (nI na) sd rw rx tm tf (nI (fo + 0)) x), (rm 1, .inl (cI, 5, .inl (fun k_ => nI (P 0 k_)))), (rm 2, .inl (cI, 5, .inl (fun k_ => nI (P 1 k_)))), (rm 3, .inl (cI, 5, .inl (fun k_ => nI (P 2 k_)))), (rm 4, .inl (cI, 5, .inl (fun k_ => nI (P 3 k_)))), (rm 5, .inl (cI, 5, .inl (fun k_ => nI (P 4 k_)))), (rm 6, .inl (cI, 5, .inl (fun k_ => nI (P 5 k_)))), (rm 10, .inl (cI, 20, .inl (mp c))), (rm 11, .inl (cI, 20, .inl (mp gg))), (rm 17, .inl (cI, 8, .inl gn))] rfl dX6_rests_303 ?_
                  refine g_iinc (v := nI (i + 1)) (lv' := [(0, .ref mo), (1, .int (nI k)), (2, .int (nI k2)), (3, .int (nI wn)), (4, .int (nI (i + 1))), (5, .int (nI 0))]) hC 4 [1, 2, 3, 4, 0, 5] dX6_rests_306 rfl (nI_add _ 1) (by decide) rfl ?_
                  refine g_goto hC 189 dX6_rests_309 (by decide) ?_
                  refine g_lv [0, 1, 2, 3, 4] (lv2 := [(0, .ref mo), (1, .int (nI k)), (2, .int (nI k2)), (3, .int (nI wn)), (4, .int (nI (i + 1)))]) rfl ?_
                  refine ih189 (i + 1) (fo + 0) x ?_ ?_ ?_ ?_ ?_
                  · omega
                  · omega
                  · show _ = reN P nq nd c k k2 i + (if reOK P nq nd c k k2 i then 1 else 0)
                    rw [← hf, if_neg (fun w => absurd w.2 (Int32.not_le.mpr h242t))]
                  · show _ = (if reOK P nq nd c k k2 i ∧ reN P nq nd c k k2 i = 0 then nI (10 * (i / 2) + (i &&& 1)) else reF P nq nd c k k2 i)
                    rw [← hf, ← hx, if_neg (fun w => absurd w.1.2 (Int32.not_le.mpr h242t))]
                  · omega
                refine g_iconst (v := nI 1) hC dX6_rests_245 rfl ?_
                refine g_goto hC 250 dX6_rests_246 (by decide) ?_
                refine g_istore (lv' := [(0, .ref mo), (1, .int (nI k)), (2, .int (nI k2)), (3, .int (nI wn)), (4, .int (nI i)), (5, .int (nI 1))]) hC [1, 2, 3, 4, 5, 0] dX6_rests_250 (by decide) rfl ?_
                refine g_aload_n hC 0 dX6_rests_252 rfl rfl ?_
                refine g_iload hC 5 dX6_rests_253 rfl ?_
                refine g_if_eq_n (a := 1) hC (by omega) 280 dX6_rests_255 (by decide) (fun q => absurd q (by decide)) (fun _ => ?_)
                refine g_aload_n hC 0 dX6_rests_258 rfl rfl ?_
                refine g_get (C := RX6) (T := TX6) (N := 38) (ci := 6) (v := .int (nI fo)) hC hcw6 0 rfl rfl 34 (by decide) w4 (fun _ h => h) rfl dX6_rests_259 ?_
                refine g_if_ne_n (a := fo) hC (by omega) 280 dX6_rests_262 (by decide) (fun h262t => ?_) (fun h262f => ?_)
                · refine g_aload_n hC 0 dX6_rests_280 rfl rfl ?_
                  refine g_get (C := RX6) (T := TX6) (N := 38) (ci := 6) (v := .int x) hC hcw6 0 rfl rfl 35 (by decide) w5 (fun _ h => h) rfl dX6_rests_281 ?_
                  refine g_put (C := RX6) (T := TX6) (N := 38) (ci := 6) (v := .int x) hC hcw6 tyX6 tyX6_ok nmX6 0 rfl rfl 35 (by decide) w5 (fun _ h => h) rfl (tyX6_ok 35 (by decide)) rfl rfl (Nat.le_of_ble_eq_true rfl) [(mo, o6 rm (nI tl) pl (nI np) (nI nq) (nI nd) rt rp rq rd (nI cnt) (nI na) sd rw rx tm tf (nI fo) x), (rm 1, .inl (cI, 5, .inl (fun k_ => nI (P 0 k_)))), (rm 2, .inl (cI, 5, .inl (fun k_ => nI (P 1 k_)))), (rm 3, .inl (cI, 5, .inl (fun k_ => nI (P 2 k_)))), (rm 4, .inl (cI, 5, .inl (fun k_ => nI (P 3 k_)))), (rm 5, .inl (cI, 5, .inl (fun k_ => nI (P 4 k_)))), (rm 6, .inl (cI, 5, .inl (fun k_ => nI (P 5 k_)))), (rm 10, .inl (cI, 20, .inl (mp c))), (rm 11, .inl (cI, 20, .inl (mp gg))), (rm 17, .inl (cI, 8, .inl gn))] rfl dX6_rests_284 ?_
                  refine g_aload_n hC 0 dX6_rests_287 rfl rfl ?_
                  refine g_dup hC dX6_rests_288 rfl ?_
                  refine g_get (C := RX6) (T := TX6) (N := 38) (ci := 6) (v := .int (nI fo)) hC hcw6 0 rfl rfl 34 (by decide) w4 (fun _ h => h) rfl dX6_rests_289 ?_
                  refine g_iload hC 5 dX6_rests_292 rfl ?_
                  refine g_if_eq_n (a := 1) hC (by omega) 301 dX6_rests_294 (by decide) (fun q => absurd q (by decide)) (fun _ => ?_)
                  refine g_iconst (v := nI 1) hC dX6_rests_297 rfl ?_
                  refine g_goto hC 302 dX6_rests_298 (by decide) ?_
                  refine g_iadd_n (a := fo) (b := 1) hC dX6_rests_302 ?_
                  refine g_put (C := RX6) (T := TX6) (N := 38) (ci := 6) (v := .int (nI (fo + 1))) hC hcw6 tyX6 tyX6_ok nmX6 0 rfl rfl 34 (by decide) w4 (fun _ h => h) rfl (tyX6_ok 34 (by decide)) rfl rfl (Nat.le_of_ble_eq_true rfl) [(mo, o6 rm (nI tl) pl (nI np) (nI nq) (nI nd) rt rp rq rd (nI cnt) (nI na) sd rw rx tm tf (nI (fo + 1)) x), (rm 1, .inl (cI, 5, .inl (fun k_ => nI (P 0 k_)))), (rm 2, .inl (cI, 5, .inl (fun k_ => nI (P 1 k_)))), (rm 3, .inl (cI, 5, .inl (fun k_ => nI (P 2 k_)))), (rm 4, .inl (cI, 5, .inl (fun k_ => nI (P 3 k_)))), (rm 5, .inl (cI, 5, .inl (fun k_ => nI (P 4 k_)))), (rm 6, .inl (cI, 5, .inl (fun k_ => nI (P 5 k_)))), (rm 10, .inl (cI, 20, .inl (mp c))), (rm 11, .inl (cI, 20, .inl (mp gg))), (rm 17, .inl (cI, 8, .inl gn))] rfl dX6_rests_303 ?_
                  refine g_iinc (v := nI (i + 1)) (lv' := [(0, .ref mo), (1, .int (nI k)), (2, .int (nI k2)), (3, .int (nI wn)), (4, .int (nI (i + 1))), (5, .int (nI 1))]) hC 4 [1, 2, 3, 4, 0, 5] dX6_rests_306 rfl (nI_add _ 1) (by decide) rfl ?_
                  refine g_goto hC 189 dX6_rests_309 (by decide) ?_
                  refine g_lv [0, 1, 2, 3, 4] (lv2 := [(0, .ref mo), (1, .int (nI k)), (2, .int (nI k2)), (3, .int (nI wn)), (4, .int (nI (i + 1)))]) rfl ?_
                  refine ih189 (i + 1) (fo + 1) x ?_ ?_ ?_ ?_ ?_
                  · omega
                  · omega
                  · show _ = reN P nq nd c k k2 i + (if reOK P nq nd c k k2 i then 1 else 0)
                    rw [← hf, if_pos ⟨Int32.not_lt.mp h215f, Int32.not_lt.mp h242f⟩]
                  · show _ = (if reOK P nq nd c k k2 i ∧ reN P nq nd c k k2 i = 0 then nI (10 * (i / 2) + (i &&& 1)) else reF P nq nd c k k2 i)
                    rw [← hf, ← hx, if_neg (fun w => h262t w.2)]
                  · omega
                refine g_bipush (v := nI 10) hC dX6_rests_265 (by decide +kernel) ?_
                refine g_iload hC 4 dX6_rests_267 rfl ?_
                refine g_iconst (v := nI 2) hC dX6_rests_269 rfl ?_
                refine g_idiv_n (a := i) (b := 2) hC (by omega) (by omega) (by omega) dX6_rests_270 ?_
                refine g_imul_n (a := 10) (b := (i / 2)) hC dX6_rests_271 ?_
                refine g_iload hC 4 dX6_rests_272 rfl ?_
                refine g_iconst (v := nI 2) hC dX6_rests_274 rfl ?_
                refine g_irem_n (a := i) (b := 2) hC (by omega) (by omega) (by omega) dX6_rests_275 ?_
                refine g_iadd_n (a := (10 * (i / 2))) (b := (i % 2)) hC dX6_rests_276 ?_
                refine g_goto hC 284 dX6_rests_277 (by decide) ?_
                refine g_put (C := RX6) (T := TX6) (N := 38) (ci := 6) (v := .int (nI (10 * (i / 2) + (i % 2)))) hC hcw6 tyX6 tyX6_ok nmX6 0 rfl rfl 35 (by decide) w5 (fun _ h => h) rfl (tyX6_ok 35 (by decide)) rfl rfl (Nat.le_of_ble_eq_true rfl) [(mo, o6 rm (nI tl) pl (nI np) (nI nq) (nI nd) rt rp rq rd (nI cnt) (nI na) sd rw rx tm tf (nI fo) (nI (10 * (i / 2) + (i % 2)))), (rm 1, .inl (cI, 5, .inl (fun k_ => nI (P 0 k_)))), (rm 2, .inl (cI, 5, .inl (fun k_ => nI (P 1 k_)))), (rm 3, .inl (cI, 5, .inl (fun k_ => nI (P 2 k_)))), (rm 4, .inl (cI, 5, .inl (fun k_ => nI (P 3 k_)))), (rm 5, .inl (cI, 5, .inl (fun k_ => nI (P 4 k_)))), (rm 6, .inl (cI, 5, .inl (fun k_ => nI (P 5 k_)))), (rm 10, .inl (cI, 20, .inl (mp c))), (rm 11, .inl (cI, 20, .inl (mp gg))), (rm 17, .inl (cI, 8, .inl gn))] rfl dX6_rests_284 ?_
                refine g_aload_n hC 0 dX6_rests_287 rfl rfl ?_
                refine g_dup hC dX6_rests_288 rfl ?_
                refine g_get (C := RX6) (T := TX6) (N := 38) (ci := 6) (v := .int (nI fo)) hC hcw6 0 rfl rfl 34 (by decide) w4 (fun _ h => h) rfl dX6_rests_289 ?_
                refine g_iload hC 5 dX6_rests_292 rfl ?_
                refine g_if_eq_n (a := 1) hC (by omega) 301 dX6_rests_294 (by decide) (fun q => absurd q (by decide)) (fun _ => ?_)
                refine g_iconst (v := nI 1) hC dX6_rests_297 rfl ?_
                refine g_goto hC 302 dX6_rests_298 (by decide) ?_
                refine g_iadd_n (a := fo) (b := 1) hC dX6_rests_302 ?_
                refine g_put (C := RX6) (T := TX6) (N := 38) (ci := 6) (v := .int (nI (fo + 1))) hC hcw6 tyX6 tyX6_ok nmX6 0 rfl rfl 34 (by decide) w4 (fun _ h => h) rfl (tyX6_ok 34 (by decide)) rfl rfl (Nat.le_of_ble_eq_true rfl) [(mo, o6 rm (nI tl) pl (nI np) (nI nq) (nI nd) rt rp rq rd (nI cnt) (nI na) sd rw rx tm tf (nI (fo + 1)) (nI (10 * (i / 2) + (i % 2)))), (rm 1, .inl (cI, 5, .inl (fun k_ => nI (P 0 k_)))), (rm 2, .inl (cI, 5, .inl (fun k_ => nI (P 1 k_)))), (rm 3, .inl (cI, 5, .inl (fun k_ => nI (P 2 k_)))), (rm 4, .inl (cI, 5, .inl (fun k_ => nI (P 3 k_)))), (rm 5, .inl (cI, 5, .inl (fun k_ => nI (P 4 k_)))), (rm 6, .inl (cI, 5, .inl (fun k_ => nI (P 5 k_)))), (rm 10, .inl (cI, 20, .inl (mp c))), (rm 11, .inl (cI, 20, .inl (mp gg))), (rm 17, .inl (cI, 8, .inl gn))] rfl dX6_rests_303 ?_
                refine g_iinc (v := nI (i + 1)) (lv' := [(0, .ref mo), (1, .int (nI k)), (2, .int (nI k2)), (3, .int (nI wn)), (4, .int (nI (i + 1))), (5, .int (nI 1))]) hC 4 [1, 2, 3, 4, 0, 5] dX6_rests_306 rfl (nI_add _ 1) (by decide) rfl ?_
                refine g_goto hC 189 dX6_rests_309 (by decide) ?_
                refine g_lv [0, 1, 2, 3, 4] (lv2 := [(0, .ref mo), (1, .int (nI k)), (2, .int (nI k2)), (3, .int (nI wn)), (4, .int (nI (i + 1)))]) rfl ?_
                refine ih189 (i + 1) (fo + 1) (nI (10 * (i / 2) + (i % 2))) ?_ ?_ ?_ ?_ ?_
                · omega
                · omega
                · show _ = reN P nq nd c k k2 i + (if reOK P nq nd c k k2 i then 1 else 0)
                  rw [← hf, if_pos ⟨Int32.not_lt.mp h215f, Int32.not_lt.mp h242f⟩]
                · show _ = (if reOK P nq nd c k k2 i ∧ reN P nq nd c k k2 i = 0 then nI (10 * (i / 2) + (i &&& 1)) else reF P nq nd c k k2 i)
                  rw [← hf, ← hx, if_pos ⟨⟨Int32.not_lt.mp h215f, Int32.not_lt.mp h242f⟩, h262f⟩, Nat.and_one_is_mod]
                · omega
            refine L189 _ 0 0 (-9) ?_ ?_ ?_ ?_ (Nat.lt_succ_self _)
            · omega
            · omega
            · rfl
            · rfl
          refine g_aload_n hC 0 dX6_rests_50 rfl rfl ?_
          refine g_callVv (As := []) (rest := []) hC (c_X6_begin l D cI cZ mo rm tl pl np nq nd rt rp rq rd cnt na sd rw rx tm tf sm sf c gg) (cwV 0 hC.1.2.2.2.2 gX6_rests_X6_begin rfl rfl rfl dV_X6_begin ⟨Nat.le_of_ble_eq_true rfl, Nat.le_of_ble_eq_true rfl⟩) rfl rfl rfl rfl (Nat.le_of_ble_eq_true rfl) dX6_rests_51 ⟨Nat.le_of_ble_eq_true rfl, Nat.le_of_ble_eq_true rfl⟩ [0, 7, 8] [1, 2, 3, 4, 5, 6, 9] [7, 0, 1, 2, 3, 4, 5, 8, 9, 6] (fun (_ : Unit) => [(mo, o6 rm (nI tl) pl (nI np) (nI nq) (nI nd) rt rp rq rd (nI cnt) (nI na) sd rw rx tm tf sm sf), (rm 1, .inl (cI, 5, .inl (fun k_ => nI (P 0 k_)))), (rm 2, .inl (cI, 5, .inl (fun k_ => nI (P 1 k_)))), (rm 3, .inl (cI, 5, .inl (fun k_ => nI (P 2 k_)))), (rm 4, .inl (cI, 5, .inl (fun k_ => nI (P 3 k_)))), (rm 5, .inl (cI, 5, .inl (fun k_ => nI (P 4 k_)))), (rm 6, .inl (cI, 5, .inl (fun k_ => nI (P 5 k_)))), (rm 10, .inl (cI, 20, .inl (mp c))), (rm 11, .inl (cI, 20, .inl (mp c))), (rm 17, .inl (cI, 8, .inl gn))]) rfl rfl rfl (fun _ => rfl) (fun z51 hp51 => ?_)
          refine g_is (ws2 := [(mo, o6 rm (nI tl) pl (nI np) (nI nq) (nI nd) rt rp rq rd (nI cnt) (nI na) sd rw rx tm tf sm sf), (rm 1, .inl (cI, 5, .inl (fun k_ => nI (P 0 k_)))), (rm 2, .inl (cI, 5, .inl (fun k_ => nI (P 1 k_)))), (rm 3, .inl (cI, 5, .inl (fun k_ => nI (P 2 k_)))), (rm 4, .inl (cI, 5, .inl (fun k_ => nI (P 3 k_)))), (rm 5, .inl (cI, 5, .inl (fun k_ => nI (P 4 k_)))), (rm 6, .inl (cI, 5, .inl (fun k_ => nI (P 5 k_)))), (rm 10, .inl (cI, 20, .inl (mp c))), (rm 11, .inl (cI, 20, .inl (mp c))), (rm 17, .inl (cI, 8, .inl gn))]) (lv2 := [(0, .ref mo), (1, .int (nI k)), (2, .int (nI k2)), (3, .int (nI wn)), (4, .int (nI i))]) (st2 := []) rfl rfl rfl ?_
          have J65 : ∀ (g1 : Nat → Int32), (g1 = if i &&& 2 ≠ 0 then bestF P nq c (nI k) else c) → G p l e rm_X6_rests s m args below meth cd D A 0 0 Q 8 [(mo, o6 rm (nI tl) pl (nI np) (nI nq) (nI nd) rt rp rq rd (nI cnt) (nI na) sd rw rx tm tf sm sf), (rm 1, .inl (cI, 5, .inl (fun k_ => nI (P 0 k_)))), (rm 2, .inl (cI, 5, .inl (fun k_ => nI (P 1 k_)))), (rm 3, .inl (cI, 5, .inl (fun k_ => nI (P 2 k_)))), (rm 4, .inl (cI, 5, .inl (fun k_ => nI (P 3 k_)))), (rm 5, .inl (cI, 5, .inl (fun k_ => nI (P 4 k_)))), (rm 6, .inl (cI, 5, .inl (fun k_ => nI (P 5 k_)))), (rm 10, .inl (cI, 20, .inl (mp c))), (rm 11, .inl (cI, 20, .inl (mp g1))), (rm 17, .inl (cI, 8, .inl gn))] 65 [(0, .ref mo), (1, .int (nI k)), (2, .int (nI k2)), (3, .int (nI wn)), (4, .int (nI i))] [] := by
            intro g1 hg1
            have J78 : ∀ (g22 : Nat → Int32), (g22 = pairF P nq c k k2 i) → G p l e rm_X6_rests s m args below meth cd D A 0 0 Q 8 [(mo, o6 rm (nI tl) pl (nI np) (nI nq) (nI nd) rt rp rq rd (nI cnt) (nI na) sd rw rx tm tf sm sf), (rm 1, .inl (cI, 5, .inl (fun k_ => nI (P 0 k_)))), (rm 2, .inl (cI, 5, .inl (fun k_ => nI (P 1 k_)))), (rm 3, .inl (cI, 5, .inl (fun k_ => nI (P 2 k_)))), (rm 4, .inl (cI, 5, .inl (fun k_ => nI (P 3 k_)))), (rm 5, .inl (cI, 5, .inl (fun k_ => nI (P 4 k_)))), (rm 6, .inl (cI, 5, .inl (fun k_ => nI (P 5 k_)))), (rm 10, .inl (cI, 20, .inl (mp c))), (rm 11, .inl (cI, 20, .inl (mp g22))), (rm 17, .inl (cI, 8, .inl gn))] 78 [(0, .ref mo), (1, .int (nI k)), (2, .int (nI k2)), (3, .int (nI wn)), (4, .int (nI i))] [] := by
              intro g22 hg2
              refine g_aload_n hC 0 dX6_rests_78 rfl rfl ?_
              refine g_get (C := RX6) (T := TX6) (N := 38) (ci := 6) (v := .ref (rm 11)) hC hcw6 0 rfl rfl 21 (by decide) w2 (fun _ h => h) rfl dX6_rests_79 ?_
              refine g_iconst (v := nI 1) hC dX6_rests_82 rfl ?_
              refine g_iload_n hC 1 dX6_rests_83 rfl rfl ?_
              refine g_iadd_n (a := 1) (b := k) hC dX6_rests_84 ?_
              refine g_iald hC 8 rfl (1 + k) rfl (by omega) (by decide) dX6_rests_85 ?_
              refine g_top (y := g22 (2 + k)) (mp_1 _ (by omega)) ?_
              refine g_istore (lv' := [(0, .ref mo), (1, .int (nI k)), (2, .int (nI k2)), (3, .int (nI wn)), (4, .int (nI i)), (5, .int (g22 (2 + k)))]) hC [1, 2, 3, 4, 5, 0] dX6_rests_86 (by decide) rfl ?_
              refine g_aload_n hC 0 dX6_rests_88 rfl rfl ?_
              refine g_get (C := RX6) (T := TX6) (N := 38) (ci := 6) (v := .ref (rm 11)) hC hcw6 0 rfl rfl 21 (by decide) w2 (fun _ h => h) rfl dX6_rests_89 ?_
              refine g_iconst (v := nI 1) hC dX6_rests_92 rfl ?_
              refine g_iload_n hC 2 dX6_rests_93 rfl rfl ?_
              refine g_iadd_n (a := 1) (b := k2) hC dX6_rests_94 ?_
              refine g_iald hC 8 rfl (1 + k2) rfl (by omega) (by decide) dX6_rests_95 ?_
              refine g_top (y := g22 (2 + k2)) (mp_1 _ (by omega)) ?_
              refine g_istore (lv' := [(0, .ref mo), (1, .int (nI k)), (2, .int (nI k2)), (3, .int (nI wn)), (4, .int (nI i)), (5, .int (g22 (2 + k))), (6, .int (g22 (2 + k2)))]) hC [1, 2, 3, 4, 5, 6, 0] dX6_rests_96 (by decide) rfl ?_
              refine g_aload_n hC 0 dX6_rests_98 rfl rfl ?_
              refine g_bipush (v := nI 20) hC dX6_rests_99 (by decide +kernel) ?_
              refine g_callVv (As := [.int (nI 20)]) (rest := []) hC (c_X6_goDays l D cI cZ mo rm tl pl np nq nd rt rp rq rd cnt na sd rw rx tm tf sm sf P g22 t 20 (by first | assumption | omega) (by rw [hg2]; exact Fr_pair hW hFr k k2 i) (by first | assumption | omega) (by first | assumption | omega)) (cwV 1 hC.1.2.2.2.2 gX6_rests_X6_goDays rfl rfl rfl dV_X6_goDays ⟨Nat.le_of_ble_eq_true rfl, Nat.le_of_ble_eq_true rfl⟩) rfl rfl rfl rfl (Nat.le_of_ble_eq_true rfl) dX6_rests_101 ⟨Nat.le_of_ble_eq_true rfl, Nat.le_of_ble_eq_true rfl⟩ [0, 1, 3, 4, 5, 6, 8] [2, 7, 9] [3, 4, 0, 5, 6, 7, 8, 1, 9, 2] (fun (_ : Unit) => [(mo, o6 rm (nI tl) pl (nI np) (nI nq) (nI nd) rt rp rq rd (nI cnt) (nI na) sd rw rx tm tf sm sf), (rm 1, .inl (cI, 5, .inl (fun k_ => nI (P 0 k_)))), (rm 2, .inl (cI, 5, .inl (fun k_ => nI (P 1 k_)))), (rm 3, .inl (cI, 5, .inl (fun k_ => nI (P 2 k_)))), (rm 4, .inl (cI, 5, .inl (fun k_ => nI (P 3 k_)))), (rm 5, .inl (cI, 5, .inl (fun k_ => nI (P 4 k_)))), (rm 6, .inl (cI, 5, .inl (fun k_ => nI (P 5 k_)))), (rm 10, .inl (cI, 20, .inl (mp c))), (rm 11, .inl (cI, 20, .inl (mp (passN P nq nd g22 20)))), (rm 17, .inl (cI, 8, .inl gn))]) rfl rfl rfl (fun _ => rfl) (fun z101 hp101 => ?_)
              refine g_is (ws2 := [(mo, o6 rm (nI tl) pl (nI np) (nI nq) (nI nd) rt rp rq rd (nI cnt) (nI na) sd rw rx tm tf sm sf), (rm 1, .inl (cI, 5, .inl (fun k_ => nI (P 0 k_)))), (rm 2, .inl (cI, 5, .inl (fun k_ => nI (P 1 k_)))), (rm 3, .inl (cI, 5, .inl (fun k_ => nI (P 2 k_)))), (rm 4, .inl (cI, 5, .inl (fun k_ => nI (P 3 k_)))), (rm 5, .inl (cI, 5, .inl (fun k_ => nI (P 4 k_)))), (rm 6, .inl (cI, 5, .inl (fun k_ => nI (P 5 k_)))), (rm 10, .inl (cI, 20, .inl (mp c))), (rm 11, .inl (cI, 20, .inl (mp (passN P nq nd g22 20)))), (rm 17, .inl (cI, 8, .inl gn))]) (lv2 := [(0, .ref mo), (1, .int (nI k)), (2, .int (nI k2)), (3, .int (nI wn)), (4, .int (nI i)), (5, .int (g22 (2 + k))), (6, .int (g22 (2 + k2)))]) (st2 := []) rfl rfl rfl ?_
              refine g_aload_n hC 0 dX6_rests_104 rfl rfl ?_
              refine g_aload_n hC 0 dX6_rests_105 rfl rfl ?_
              refine g_get (C := RX6) (T := TX6) (N := 38) (ci := 6) (v := .ref (rm 11)) hC hcw6 0 rfl rfl 21 (by decide) w2 (fun _ h => h) rfl dX6_rests_106 ?_
              refine g_iconst (v := nI 1) hC dX6_rests_109 rfl ?_
              refine g_callVip (As := [.ref (rm 11), .int (nI 1)]) (rest := []) hC (nI (deedsThat nd (passN P nq nd g22 20) (nI 1))) (c_X6_deedsThat l D cI cZ mo rm tl pl np nq nd rt rp rq rd cnt na sd rw rx tm tf sm sf (rm 11) (passN P nq nd g22 20) (nI 1) (by omega)) (cwV 2 hC.1.2.2.2.2 gX6_rests_X6_deedsThat rfl rfl rfl dV_X6_deedsThat ⟨Nat.le_of_ble_eq_true rfl, Nat.le_of_ble_eq_true rfl⟩) rfl rfl rfl rfl (Nat.le_of_ble_eq_true rfl) dX6_rests_110 ⟨Nat.le_of_ble_eq_true rfl, Nat.le_of_ble_eq_true rfl⟩ [0, 8] rfl rfl ?_
              refine g_iconst (v := (-1)) hC dX6_rests_113 rfl ?_
              refine g_ixor hC dX6_rests_114 ?_
              refine g_istore (lv' := [(0, .ref mo), (1, .int (nI k)), (2, .int (nI k2)), (3, .int (nI wn)), (4, .int (nI i)), (5, .int (g22 (2 + k))), (6, .int (g22 (2 + k2))), (7, .int ((nI (deedsThat nd (passN P nq nd g22 20) (nI 1))) ^^^ (-1)))]) hC [1, 2, 3, 4, 5, 6, 7, 0] dX6_rests_115 (by decide) rfl ?_
              refine g_aload_n hC 0 dX6_rests_117 rfl rfl ?_
              refine g_get (C := RX6) (T := TX6) (N := 38) (ci := 6) (v := .ref (rm 17)) hC hcw6 0 rfl rfl 36 (by decide) w3 (fun _ h => h) rfl dX6_rests_118 ?_
              refine g_iconst (v := nI 2) hC dX6_rests_121 rfl ?_
              refine g_iload hC 4 dX6_rests_122 rfl ?_
              refine g_imul_n (a := 2) (b := i) hC dX6_rests_124 ?_
              refine g_iload hC 5 dX6_rests_125 rfl ?_
              refine g_iconst (v := nI 5) hC dX6_rests_127 rfl ?_
              refine g_aload_n hC 0 dX6_rests_128 rfl rfl ?_
              refine g_iload_n hC 1 dX6_rests_129 rfl rfl ?_
              refine g_callVip (As := [.int (nI k)]) (rest := [.int (nI 5), .int (g22 (2 + k)), .int (nI (2 * i)), .ref (rm 17)]) hC (nI (deedsB nd P (nI k))) (c_X6_deedsOf l D cI cZ mo rm tl pl np nq nd rt rp rq rd cnt na sd rw rx tm tf sm sf P (nI k) (by first | assumption | omega)) (cwV 1 hC.1.2.2.2.2 gX6_rests_X6_deedsOf rfl rfl rfl dV_X6_deedsOf ⟨Nat.le_of_ble_eq_true rfl, Nat.le_of_ble_eq_true rfl⟩) rfl rfl rfl rfl (Nat.le_of_ble_eq_true rfl) dX6_rests_130 ⟨Nat.le_of_ble_eq_true rfl, Nat.le_of_ble_eq_true rfl⟩ [0, 1, 4] rfl rfl ?_
              refine g_iload hC 7 dX6_rests_133 rfl ?_
              refine g_iand hC dX6_rests_135 ?_
              refine g_top (y := nI (deedsB nd P (nI k) &&& (31 - deedsThat nd (passN P nq nd g22 20) (nI 1)))) (nandB _ (hdo k) _ (bts_le hnd)) ?_
              have hppk : deedsB nd P (nI k) &&& (31 - deedsThat nd (passN P nq nd g22 20) (nI 1)) < 32 := Nat.lt_of_le_of_lt Nat.and_le_left (hdo k)
              refine g_callSip (As := [.int (nI (deedsB nd P (nI k) &&& (31 - deedsThat nd (passN P nq nd g22 20) (nI 1))))]) (rest := [.int (nI 5), .int (g22 (2 + k)), .int (nI (2 * i)), .ref (rm 17)]) hC (nI (pop5 (deedsB nd P (nI k) &&& (31 - deedsThat nd (passN P nq nd g22 20) (nI 1))))) (c_X6_many l D cI cZ (deedsB nd P (nI k) &&& (31 - deedsThat nd (passN P nq nd g22 20) (nI 1))) (by first | assumption | omega)) (va_cwS 1 hC.1.2.2.2.2 gX6_rests_X6_many rfl rfl rfl dS_X6_many ⟨Nat.le_of_ble_eq_true rfl, Nat.le_of_ble_eq_true rfl⟩) rfl rfl (Nat.le_of_ble_eq_true rfl) dX6_rests_136 ⟨Nat.le_of_ble_eq_true rfl, Nat.le_of_ble_eq_true rfl⟩ [] rfl rfl ?_
              refine g_imul_n (a := 5) (b := (pop5 (deedsB nd P (nI k) &&& (31 - deedsThat nd (passN P nq nd g22 20) (nI 1))))) hC dX6_rests_139 ?_
              refine g_isub hC dX6_rests_140 ?_
              refine g_iast hC 9 rfl (2 * i) rfl (by omega) (by decide) [(mo, o6 rm (nI tl) pl (nI np) (nI nq) (nI nd) rt rp rq rd (nI cnt) (nI na) sd rw rx tm tf sm sf), (rm 1, .inl (cI, 5, .inl (fun k_ => nI (P 0 k_)))), (rm 2, .inl (cI, 5, .inl (fun k_ => nI (P 1 k_)))), (rm 3, .inl (cI, 5, .inl (fun k_ => nI (P 2 k_)))), (rm 4, .inl (cI, 5, .inl (fun k_ => nI (P 3 k_)))), (rm 5, .inl (cI, 5, .inl (fun k_ => nI (P 4 k_)))), (rm 6, .inl (cI, 5, .inl (fun k_ => nI (P 5 k_)))), (rm 10, .inl (cI, 20, .inl (mp c))), (rm 11, .inl (cI, 20, .inl (mp (passN P nq nd g22 20)))), (rm 17, .inl (cI, 8, .inl (upd gn (2 * i) ((g22 (2 + k)) - (nI (5 * (pop5 (deedsB nd P (nI k) &&& (31 - deedsThat nd (passN P nq nd g22 20) (nI 1))))))))))] rfl dX6_rests_141 ?_
              refine g_aload_n hC 0 dX6_rests_142 rfl rfl ?_
              refine g_get (C := RX6) (T := TX6) (N := 38) (ci := 6) (v := .ref (rm 17)) hC hcw6 0 rfl rfl 36 (by decide) w3 (fun _ h => h) rfl dX6_rests_143 ?_
              refine g_iconst (v := nI 2) hC dX6_rests_146 rfl ?_
              refine g_iload hC 4 dX6_rests_147 rfl ?_
              refine g_imul_n (a := 2) (b := i) hC dX6_rests_149 ?_
              refine g_iconst (v := nI 1) hC dX6_rests_150 rfl ?_
              refine g_iadd_n (a := (2 * i)) (b := 1) hC dX6_rests_151 ?_
              refine g_iload hC 6 dX6_rests_152 rfl ?_
              refine g_iconst (v := nI 5) hC dX6_rests_154 rfl ?_
              refine g_aload_n hC 0 dX6_rests_155 rfl rfl ?_
              refine g_iload_n hC 2 dX6_rests_156 rfl rfl ?_
              refine g_callVip (As := [.int (nI k2)]) (rest := [.int (nI 5), .int (g22 (2 + k2)), .int (nI (2 * i + 1)), .ref (rm 17)]) hC (nI (deedsB nd P (nI k2))) (c_X6_deedsOf l D cI cZ mo rm tl pl np nq nd rt rp rq rd cnt na sd rw rx tm tf sm sf P (nI k2) (by first | assumption | omega)) (cwV 1 hC.1.2.2.2.2 gX6_rests_X6_deedsOf rfl rfl rfl dV_X6_deedsOf ⟨Nat.le_of_ble_eq_true rfl, Nat.le_of_ble_eq_true rfl⟩) rfl rfl rfl rfl (Nat.le_of_ble_eq_true rfl) dX6_rests_157 ⟨Nat.le_of_ble_eq_true rfl, Nat.le_of_ble_eq_true rfl⟩ [0, 1, 4] rfl rfl ?_
              refine g_iload hC 7 dX6_rests_160 rfl ?_
              refine g_iand hC dX6_rests_162 ?_
              refine g_top (y := nI (deedsB nd P (nI k2) &&& (31 - deedsThat nd (passN P nq nd g22 20) (nI 1)))) (nandB _ (hdo k2) _ (bts_le hnd)) ?_
              have hppk2 : deedsB nd P (nI k2) &&& (31 - deedsThat nd (passN P nq nd g22 20) (nI 1)) < 32 := Nat.lt_of_le_of_lt Nat.and_le_left (hdo k2)
              refine g_callSip (As := [.int (nI (deedsB nd P (nI k2) &&& (31 - deedsThat nd (passN P nq nd g22 20) (nI 1))))]) (rest := [.int (nI 5), .int (g22 (2 + k2)), .int (nI (2 * i + 1)), .ref (rm 17)]) hC (nI (pop5 (deedsB nd P (nI k2) &&& (31 - deedsThat nd (passN P nq nd g22 20) (nI 1))))) (c_X6_many l D cI cZ (deedsB nd P (nI k2) &&& (31 - deedsThat nd (passN P nq nd g22 20) (nI 1))) (by first | assumption | omega)) (va_cwS 1 hC.1.2.2.2.2 gX6_rests_X6_many rfl rfl rfl dS_X6_many ⟨Nat.le_of_ble_eq_true rfl, Nat.le_of_ble_eq_true rfl⟩) rfl rfl (Nat.le_of_ble_eq_true rfl) dX6_rests_163 ⟨Nat.le_of_ble_eq_true rfl, Nat.le_of_ble_eq_true rfl⟩ [] rfl rfl ?_
              refine g_imul_n (a := 5) (b := (pop5 (deedsB nd P (nI k2) &&& (31 - deedsThat nd (passN P nq nd g22 20) (nI 1))))) hC dX6_rests_166 ?_
              refine g_isub hC dX6_rests_167 ?_
              refine g_iast hC 9 rfl (2 * i + 1) rfl (by omega) (by decide) [(mo, o6 rm (nI tl) pl (nI np) (nI nq) (nI nd) rt rp rq rd (nI cnt) (nI na) sd rw rx tm tf sm sf), (rm 1, .inl (cI, 5, .inl (fun k_ => nI (P 0 k_)))), (rm 2, .inl (cI, 5, .inl (fun k_ => nI (P 1 k_)))), (rm 3, .inl (cI, 5, .inl (fun k_ => nI (P 2 k_)))), (rm 4, .inl (cI, 5, .inl (fun k_ => nI (P 3 k_)))), (rm 5, .inl (cI, 5, .inl (fun k_ => nI (P 4 k_)))), (rm 6, .inl (cI, 5, .inl (fun k_ => nI (P 5 k_)))), (rm 10, .inl (cI, 20, .inl (mp c))), (rm 11, .inl (cI, 20, .inl (mp (passN P nq nd g22 20)))), (rm 17, .inl (cI, 8, .inl (upd (upd gn (2 * i) ((g22 (2 + k)) - (nI (5 * (pop5 (deedsB nd P (nI k) &&& (31 - deedsThat nd (passN P nq nd g22 20) (nI 1)))))))) (2 * i + 1) ((g22 (2 + k2)) - (nI (5 * (pop5 (deedsB nd P (nI k2) &&& (31 - deedsThat nd (passN P nq nd g22 20) (nI 1))))))))))] rfl dX6_rests_168 ?_
              refine g_iinc (v := nI (i + 1)) (lv' := [(0, .ref mo), (1, .int (nI k)), (2, .int (nI k2)), (3, .int (nI wn)), (4, .int (nI (i + 1))), (5, .int (g22 (2 + k))), (6, .int (g22 (2 + k2))), (7, .int ((nI (deedsThat nd (passN P nq nd g22 20) (nI 1))) ^^^ (-1)))]) hC 4 [1, 2, 3, 4, 0, 5, 6, 7] dX6_rests_169 rfl (nI_add _ 1) (by decide) rfl ?_
              refine g_goto hC 44 dX6_rests_172 (by decide) ?_
              refine g_lv [0, 1, 2, 3, 4] (lv2 := [(0, .ref mo), (1, .int (nI k)), (2, .int (nI k2)), (3, .int (nI wn)), (4, .int (nI (i + 1)))]) rfl ?_
              refine ih44 (i + 1) (passN P nq nd g22 20) (upd (upd gn (2 * i) ((g22 (2 + k)) - (nI (5 * (pop5 (deedsB nd P (nI k) &&& (31 - deedsThat nd (passN P nq nd g22 20) (nI 1)))))))) (2 * i + 1) ((g22 (2 + k2)) - (nI (5 * (pop5 (deedsB nd P (nI k2) &&& (31 - deedsThat nd (passN P nq nd g22 20) (nI 1)))))))) ?_ ?_ ?_
              · omega
              · intro j hj
                rcases Nat.lt_succ_iff_lt_or_eq.mp hj with h | h
                · refine ⟨?_, ?_⟩
                  · rw [upd_ne _ _ (by omega), upd_ne _ _ (by omega)]; exact (hgn j h).1
                  · rw [upd_ne _ _ (by omega), upd_ne _ _ (by omega)]; exact (hgn j h).2
                · subst h
                  refine ⟨?_, ?_⟩
                  · rw [upd_ne _ _ (by omega), upd_self, gainF, ← hg2]
                  · rw [upd_self, gainF, ← hg2]
              · omega
            refine g_iload hC 4 dX6_rests_65 rfl ?_
            refine g_iconst (v := nI 2) hC dX6_rests_67 rfl ?_
            refine g_irem_n (a := i) (b := 2) hC (by omega) (by omega) (by omega) dX6_rests_68 ?_
            refine g_iconst (v := nI 1) hC dX6_rests_69 rfl ?_
            refine g_icmp_ne_n (a := (i % 2)) (b := 1) hC (by omega) (by omega) 78 dX6_rests_70 (by decide) (fun h70t => ?_) (fun h70f => ?_)
            · refine J78 g1 ?_
              · rw [pairF, if_neg (fun q => absurd ((bit1 i (by omega)).mp q) h70t)]; exact hg1
            refine g_aload_n hC 0 dX6_rests_73 rfl rfl ?_
            refine g_iload_n hC 2 dX6_rests_74 rfl rfl ?_
            refine g_callVv (As := [.int (nI k2)]) (rest := []) hC (c_X6_goBest l D cI cZ mo rm tl pl np nq nd rt rp rq rd cnt na sd rw rx tm tf sm sf P g1 k2 (by first | assumption | omega) (by first | assumption | omega)) (cwV 1 hC.1.2.2.2.2 gX6_rests_X6_goBest rfl rfl rfl dV_X6_goBest ⟨Nat.le_of_ble_eq_true rfl, Nat.le_of_ble_eq_true rfl⟩) rfl rfl rfl rfl (Nat.le_of_ble_eq_true rfl) dX6_rests_75 ⟨Nat.le_of_ble_eq_true rfl, Nat.le_of_ble_eq_true rfl⟩ [0, 1, 2, 8] [3, 4, 5, 6, 7, 9] [6, 7, 8, 0, 1, 2, 3, 4, 9, 5] (fun (_ : Unit) => [(mo, o6 rm (nI tl) pl (nI np) (nI nq) (nI nd) rt rp rq rd (nI cnt) (nI na) sd rw rx tm tf sm sf), (rm 1, .inl (cI, 5, .inl (fun k_ => nI (P 0 k_)))), (rm 2, .inl (cI, 5, .inl (fun k_ => nI (P 1 k_)))), (rm 3, .inl (cI, 5, .inl (fun k_ => nI (P 2 k_)))), (rm 4, .inl (cI, 5, .inl (fun k_ => nI (P 3 k_)))), (rm 5, .inl (cI, 5, .inl (fun k_ => nI (P 4 k_)))), (rm 6, .inl (cI, 5, .inl (fun k_ => nI (P 5 k_)))), (rm 10, .inl (cI, 20, .inl (mp c))), (rm 11, .inl (cI, 20, .inl (mp (bestF P nq g1 (nI k2))))), (rm 17, .inl (cI, 8, .inl gn))]) rfl rfl rfl (fun _ => rfl) (fun z75 hp75 => ?_)
            refine g_is (ws2 := [(mo, o6 rm (nI tl) pl (nI np) (nI nq) (nI nd) rt rp rq rd (nI cnt) (nI na) sd rw rx tm tf sm sf), (rm 1, .inl (cI, 5, .inl (fun k_ => nI (P 0 k_)))), (rm 2, .inl (cI, 5, .inl (fun k_ => nI (P 1 k_)))), (rm 3, .inl (cI, 5, .inl (fun k_ => nI (P 2 k_)))), (rm 4, .inl (cI, 5, .inl (fun k_ => nI (P 3 k_)))), (rm 5, .inl (cI, 5, .inl (fun k_ => nI (P 4 k_)))), (rm 6, .inl (cI, 5, .inl (fun k_ => nI (P 5 k_)))), (rm 10, .inl (cI, 20, .inl (mp c))), (rm 11, .inl (cI, 20, .inl (mp (bestF P nq g1 (nI k2))))), (rm 17, .inl (cI, 8, .inl gn))]) (lv2 := [(0, .ref mo), (1, .int (nI k)), (2, .int (nI k2)), (3, .int (nI wn)), (4, .int (nI i))]) (st2 := []) rfl rfl rfl ?_
            refine J78 (bestF P nq g1 (nI k2)) ?_
            · rw [pairF, if_pos ((bit1 i (by omega)).mpr h70f), ← hg1]
          refine g_iload hC 4 dX6_rests_54 rfl ?_
          refine g_iconst (v := nI 1) hC dX6_rests_56 rfl ?_
          refine g_icmp_le_n (a := i) (b := 1) hC (by omega) (by omega) 65 dX6_rests_57 (by decide) (fun h57t => ?_) (fun h57f => ?_)
          · refine J65 c ?_
            · rw [if_neg (fun q => absurd ((bit2 i (by omega)).mp q) (by omega))]
          refine g_aload_n hC 0 dX6_rests_60 rfl rfl ?_
          refine g_iload_n hC 1 dX6_rests_61 rfl rfl ?_
          refine g_callVv (As := [.int (nI k)]) (rest := []) hC (c_X6_goBest l D cI cZ mo rm tl pl np nq nd rt rp rq rd cnt na sd rw rx tm tf sm sf P c k (by first | assumption | omega) (by first | assumption | omega)) (cwV 1 hC.1.2.2.2.2 gX6_rests_X6_goBest rfl rfl rfl dV_X6_goBest ⟨Nat.le_of_ble_eq_true rfl, Nat.le_of_ble_eq_true rfl⟩) rfl rfl rfl rfl (Nat.le_of_ble_eq_true rfl) dX6_rests_62 ⟨Nat.le_of_ble_eq_true rfl, Nat.le_of_ble_eq_true rfl⟩ [0, 1, 2, 8] [3, 4, 5, 6, 7, 9] [6, 7, 8, 0, 1, 2, 3, 4, 9, 5] (fun (_ : Unit) => [(mo, o6 rm (nI tl) pl (nI np) (nI nq) (nI nd) rt rp rq rd (nI cnt) (nI na) sd rw rx tm tf sm sf), (rm 1, .inl (cI, 5, .inl (fun k_ => nI (P 0 k_)))), (rm 2, .inl (cI, 5, .inl (fun k_ => nI (P 1 k_)))), (rm 3, .inl (cI, 5, .inl (fun k_ => nI (P 2 k_)))), (rm 4, .inl (cI, 5, .inl (fun k_ => nI (P 3 k_)))), (rm 5, .inl (cI, 5, .inl (fun k_ => nI (P 4 k_)))), (rm 6, .inl (cI, 5, .inl (fun k_ => nI (P 5 k_)))), (rm 10, .inl (cI, 20, .inl (mp c))), (rm 11, .inl (cI, 20, .inl (mp (bestF P nq c (nI k))))), (rm 17, .inl (cI, 8, .inl gn))]) rfl rfl rfl (fun _ => rfl) (fun z62 hp62 => ?_)
          refine g_is (ws2 := [(mo, o6 rm (nI tl) pl (nI np) (nI nq) (nI nd) rt rp rq rd (nI cnt) (nI na) sd rw rx tm tf sm sf), (rm 1, .inl (cI, 5, .inl (fun k_ => nI (P 0 k_)))), (rm 2, .inl (cI, 5, .inl (fun k_ => nI (P 1 k_)))), (rm 3, .inl (cI, 5, .inl (fun k_ => nI (P 2 k_)))), (rm 4, .inl (cI, 5, .inl (fun k_ => nI (P 3 k_)))), (rm 5, .inl (cI, 5, .inl (fun k_ => nI (P 4 k_)))), (rm 6, .inl (cI, 5, .inl (fun k_ => nI (P 5 k_)))), (rm 10, .inl (cI, 20, .inl (mp c))), (rm 11, .inl (cI, 20, .inl (mp (bestF P nq c (nI k))))), (rm 17, .inl (cI, 8, .inl gn))]) (lv2 := [(0, .ref mo), (1, .int (nI k)), (2, .int (nI k2)), (3, .int (nI wn)), (4, .int (nI i))]) (st2 := []) rfl rfl rfl ?_
          refine J65 (bestF P nq c (nI k)) ?_
          · rw [if_pos ((bit2 i (by omega)).mpr (by omega))]
      refine L44 _ 0 g ga ?_ ?_ (Nat.lt_succ_self _)
      · omega
      · exact fun j h => absurd h (Nat.not_lt_zero _)
    refine g_bipush (v := (-2)) hC dX6_rests_38 (by decide +kernel) ?_
    subst hQ
    refine g_iret (v := -2) hC (g, ga, sm, sf) hr ?_ rfl dX6_rests_40
    rw [restsR, if_pos ⟨hin1, hin2⟩, if_neg (fun q => h35f q.2)]
  refine g_iconst (v := (-1)) hC dX6_rests_21 rfl ?_
  subst hQ
  refine g_iret (v := -1) hC (g, ga, sm, sf) hr ?_ rfl dX6_rests_22
  rw [restsR, if_neg (fun q => h18f q.2)]
