abbrev rm_X6_note : Room := { frames := 0, cells := 0, slots := 0, locals := 0 }
set_option maxRecDepth 100000 in
set_option maxHeartbeats 4000000 in
theorem c_X6_note (l : Launch) (D : va_G) (cI cZ : ClassId) (mo : Nat) (rm : Nat → Nat) (tl : Nat) (pl : Int32) (np : Nat) (nq : Nat) (nd : Nat) (rt : Int32) (rp : Int32) (rq : Int32) (rd : Int32) (cnt : Nat) (na : Nat) (sd : Int64) (rw : Int32) (rx : Int32) (tm : Int32) (tf : Int32) (sm : Int32) (sf : Int32) (c : Nat → Int32) (bk : Nat → Int32) (hcnt : cnt ≤ 14) : CtV l yX6_note wsX6_note rm_X6_note D cI cZ [.ref mo] [(mo, o6 rm (nI tl) pl (nI np) (nI nq) (nI nd) rt rp rq rd (nI cnt) (nI na) sd rw rx tm tf sm sf), (rm 10, .inl (cI, 20, .inl (mp c))), (rm 12, .inl (cI, 280, .inl bk))] (fun (_ : Unit) => True) (fun (_ : Unit) => [(mo, o6 rm (nI tl) pl (nI np) (nI nq) (nI nd) rt rp rq rd (nI (ringN cnt)) (nI na) sd rw rx tm tf sm sf), (rm 10, .inl (cI, 20, .inl (mp c))), (rm 12, .inl (cI, 280, .inl (bkN bk cnt c)))]) 0 0 := by
  refine g_startV (ret := none) (own := RX6) (lv0 := [(0, .ref mo)]) (by decide) rfl rfl (Nat.le_of_ble_eq_true rfl) rfl ?_
  intro p e s m args below meth cd A Q hin hr hQ hC
  have hcw6 : ∀ w ∈ wsX60, w ∈ wsX6_note := fun _ h => List.mem_cons_of_mem _ (List.mem_append_right _ h)
  have w1 := hC.1.2.2.2.2 (.fieldLink "PluckBrokerModel" 126 "PluckBrokerModel" "acts" "I") (List.mem_of_getElem? (i := 1) rfl)
  have w2 := hC.1.2.2.2.2 (.fieldLink "PluckBrokerModel" 46 "PluckBrokerModel" "book" "[I") (List.mem_of_getElem? (i := 2) rfl)
  have w3 := hC.1.2.2.2.2 (.fieldLink "PluckBrokerModel" 40 "PluckBrokerModel" "page" "[I") (List.mem_of_getElem? (i := 3) rfl)
  refine g_aload_n hC 0 dX6_note_0 rfl rfl ?_
  refine g_get (C := RX6) (T := TX6) (N := 38) (ci := 6) (v := .int (nI cnt)) hC hcw6 0 rfl rfl 23 (by decide) w1 (fun _ h => h) rfl dX6_note_1 ?_
  refine g_bipush (v := nI 14) hC dX6_note_4 (by decide +kernel) ?_
  refine g_icmp_ne_n (a := cnt) (b := 14) hC (by omega) (by omega) 49 dX6_note_6 (by decide) (fun h6t => ?_) (fun h6f => ?_)
  · refine g_iconst (v := nI 0) hC dX6_note_49 rfl ?_
    refine g_istore_n (lv' := [(0, .ref mo), (1, .int (nI 0))]) hC [1, 0] dX6_note_50 rfl (by decide) rfl ?_
    have L51 : ∀ (n : Nat) (i2 : Nat) (ct : Nat) (b2 : Nat → Int32), (i2 ≤ 20) → (ct < 14) → (ct + 1 = ringN cnt) → (b2 = wrG (baB bk cnt) (20 * ct) (mp c) i2) → 20 - i2 < n → G p l e rm_X6_note s m args below meth cd D A 0 0 Q 2 [(mo, o6 rm (nI tl) pl (nI np) (nI nq) (nI nd) rt rp rq rd (nI ct) (nI na) sd rw rx tm tf sm sf), (rm 10, .inl (cI, 20, .inl (mp c))), (rm 12, .inl (cI, 280, .inl b2))] 51 [(0, .ref mo), (1, .int (nI i2))] [] := by
      intro n
      induction n with
      | zero => intro i2 ct b2 hi2 hc14 hct hb2 hn; exact absurd hn (Nat.not_lt_zero _)
      | succ n ih51 =>
        intro i2 ct b2 hi2 hc14 hct hb2 hn
        refine g_iload_n hC 1 dX6_note_51 rfl rfl ?_
        refine g_bipush (v := nI 20) hC dX6_note_52 (by decide +kernel) ?_
        refine g_icmp_ge_n (a := i2) (b := 20) hC (by omega) (by omega) 83 dX6_note_54 (by decide) (fun h54t => ?_) (fun h54f => ?_)
        · have ei2 : i2 = 20 := by omega
          have ec1 : ct = ringN cnt - 1 := by omega
          rw [ei2] at hb2
          have ecell : b2 = (bkN bk cnt c) := by rw [hb2, wrG_save, bkN, ← ec1]
          refine g_ws (ws2 := [(mo, o6 rm (nI tl) pl (nI np) (nI nq) (nI nd) rt rp rq rd (nI ct) (nI na) sd rw rx tm tf sm sf), (rm 10, .inl (cI, 20, .inl (mp c))), (rm 12, .inl (cI, 280, .inl (bkN bk cnt c)))]) (congrArg (fun zz : Nat → Int32 => ([(mo, o6 rm (nI tl) pl (nI np) (nI nq) (nI nd) rt rp rq rd (nI ct) (nI na) sd rw rx tm tf sm sf), (rm 10, .inl (cI, 20, .inl (mp c))), (rm 12, .inl (cI, 280, .inl zz))] : va_W)) ecell) ?_
          refine g_aload_n hC 0 dX6_note_83 rfl rfl ?_
          refine g_dup hC dX6_note_84 rfl ?_
          refine g_get (C := RX6) (T := TX6) (N := 38) (ci := 6) (v := .int (nI ct)) hC hcw6 0 rfl rfl 23 (by decide) w1 (fun _ h => h) rfl dX6_note_85 ?_
          refine g_iconst (v := nI 1) hC dX6_note_88 rfl ?_
          refine g_iadd_n (a := ct) (b := 1) hC dX6_note_89 ?_
          refine g_put (C := RX6) (T := TX6) (N := 38) (ci := 6) (v := .int (nI (ct + 1))) hC hcw6 tyX6 tyX6_ok nmX6 0 rfl rfl 23 (by decide) w1 (fun _ h => h) rfl (tyX6_ok 23 (by decide)) rfl rfl (Nat.le_of_ble_eq_true rfl) [(mo, o6 rm (nI tl) pl (nI np) (nI nq) (nI nd) rt rp rq rd (nI (ct + 1)) (nI na) sd rw rx tm tf sm sf), (rm 10, .inl (cI, 20, .inl (mp c))), (rm 12, .inl (cI, 280, .inl (bkN bk cnt c)))] rfl dX6_note_90 ?_
          have efld : (ct + 1 : Nat) = ringN cnt := by exact hct
          refine g_ws (ws2 := [(mo, o6 rm (nI tl) pl (nI np) (nI nq) (nI nd) rt rp rq rd (nI (ringN cnt)) (nI na) sd rw rx tm tf sm sf), (rm 10, .inl (cI, 20, .inl (mp c))), (rm 12, .inl (cI, 280, .inl (bkN bk cnt c)))]) (congrArg (fun zz : Nat => ([(mo, o6 rm (nI tl) pl (nI np) (nI nq) (nI nd) rt rp rq rd (nI zz) (nI na) sd rw rx tm tf sm sf), (rm 10, .inl (cI, 20, .inl (mp c))), (rm 12, .inl (cI, 280, .inl (bkN bk cnt c)))] : va_W)) efld) ?_
          subst hQ
          refine g_vret hC () hr ?_ rfl dX6_note_93
          trivial
        refine g_aload_n hC 0 dX6_note_57 rfl rfl ?_
        refine g_get (C := RX6) (T := TX6) (N := 38) (ci := 6) (v := .ref (rm 12)) hC hcw6 0 rfl rfl 22 (by decide) w2 (fun _ h => h) rfl dX6_note_58 ?_
        refine g_bipush (v := nI 20) hC dX6_note_61 (by decide +kernel) ?_
        refine g_aload_n hC 0 dX6_note_63 rfl rfl ?_
        refine g_get (C := RX6) (T := TX6) (N := 38) (ci := 6) (v := .int (nI ct)) hC hcw6 0 rfl rfl 23 (by decide) w1 (fun _ h => h) rfl dX6_note_64 ?_
        refine g_imul_n (a := 20) (b := ct) hC dX6_note_67 ?_
        refine g_iload_n hC 1 dX6_note_68 rfl rfl ?_
        refine g_iadd_n (a := (20 * ct)) (b := i2) hC dX6_note_69 ?_
        refine g_aload_n hC 0 dX6_note_70 rfl rfl ?_
        refine g_get (C := RX6) (T := TX6) (N := 38) (ci := 6) (v := .ref (rm 10)) hC hcw6 0 rfl rfl 20 (by decide) w3 (fun _ h => h) rfl dX6_note_71 ?_
        refine g_iload_n hC 1 dX6_note_74 rfl rfl ?_
        refine g_iald hC 1 rfl i2 rfl (by omega) (by decide) dX6_note_75 ?_
        refine g_iast hC 2 rfl (20 * ct + i2) rfl (by omega) (by decide) [(mo, o6 rm (nI tl) pl (nI np) (nI nq) (nI nd) rt rp rq rd (nI ct) (nI na) sd rw rx tm tf sm sf), (rm 10, .inl (cI, 20, .inl (mp c))), (rm 12, .inl (cI, 280, .inl (upd b2 (20 * ct + i2) ((mp c) i2))))] rfl dX6_note_76 ?_
        refine g_iinc (v := nI (i2 + 1)) (lv' := [(0, .ref mo), (1, .int (nI (i2 + 1)))]) hC 1 [1, 0] dX6_note_77 rfl (nI_add _ 1) (by decide) rfl ?_
        refine g_goto hC 51 dX6_note_80 (by decide) ?_
        refine ih51 (i2 + 1) ct (upd b2 (20 * ct + i2) ((mp c) i2)) ?_ ?_ ?_ ?_ ?_
        · omega
        · omega
        · omega
        · rw [hb2]; rfl
        · omega
    refine L51 _ 0 cnt bk ?_ ?_ ?_ ?_ (Nat.lt_succ_self _)
    · omega
    · omega
    · unfold ringN; split <;> omega
    · show _ = baB bk cnt
      unfold baB
      first
        | rw [if_neg (by omega)]
        | rw [if_pos (by omega)]
  refine g_iconst (v := nI 0) hC dX6_note_9 rfl ?_
  refine g_istore_n (lv' := [(0, .ref mo), (1, .int (nI 0))]) hC [1, 0] dX6_note_10 rfl (by decide) rfl ?_
  have L11 : ∀ (n : Nat) (i : Nat) (bb : Nat → Int32), (i ≤ 260) → (bb = shB bk i) → 260 - i < n → G p l e rm_X6_note s m args below meth cd D A 0 0 Q 2 [(mo, o6 rm (nI tl) pl (nI np) (nI nq) (nI nd) rt rp rq rd (nI cnt) (nI na) sd rw rx tm tf sm sf), (rm 10, .inl (cI, 20, .inl (mp c))), (rm 12, .inl (cI, 280, .inl bb))] 11 [(0, .ref mo), (1, .int (nI i))] [] := by
    intro n
    induction n with
    | zero => intro i bb hi hbb hn; exact absurd hn (Nat.not_lt_zero _)
    | succ n ih11 =>
      intro i bb hi hbb hn
      refine g_iload_n hC 1 dX6_note_11 rfl rfl ?_
      refine g_sipush (v := nI 260) hC dX6_note_12 (by decide +kernel) ?_
      refine g_icmp_ge_n (a := i) (b := 260) hC (by omega) (by omega) 39 dX6_note_15 (by decide) (fun h15t => ?_) (fun h15f => ?_)
      · have ei : i = 260 := by omega
        rw [ei] at hbb
        have ecell : bb = (shB bk 260) := by exact hbb
        refine g_ws (ws2 := [(mo, o6 rm (nI tl) pl (nI np) (nI nq) (nI nd) rt rp rq rd (nI cnt) (nI na) sd rw rx tm tf sm sf), (rm 10, .inl (cI, 20, .inl (mp c))), (rm 12, .inl (cI, 280, .inl (shB bk 260)))]) (congrArg (fun zz : Nat → Int32 => ([(mo, o6 rm (nI tl) pl (nI np) (nI nq) (nI nd) rt rp rq rd (nI cnt) (nI na) sd rw rx tm tf sm sf), (rm 10, .inl (cI, 20, .inl (mp c))), (rm 12, .inl (cI, 280, .inl zz))] : va_W)) ecell) ?_
        refine g_aload_n hC 0 dX6_note_39 rfl rfl ?_
        refine g_dup hC dX6_note_40 rfl ?_
        refine g_get (C := RX6) (T := TX6) (N := 38) (ci := 6) (v := .int (nI cnt)) hC hcw6 0 rfl rfl 23 (by decide) w1 (fun _ h => h) rfl dX6_note_41 ?_
        refine g_iconst (v := nI 1) hC dX6_note_44 rfl ?_
        refine g_isub_n (a := cnt) (b := 1) hC (by omega) dX6_note_45 ?_
        refine g_put (C := RX6) (T := TX6) (N := 38) (ci := 6) (v := .int (nI (cnt - 1))) hC hcw6 tyX6 tyX6_ok nmX6 0 rfl rfl 23 (by decide) w1 (fun _ h => h) rfl (tyX6_ok 23 (by decide)) rfl rfl (Nat.le_of_ble_eq_true rfl) [(mo, o6 rm (nI tl) pl (nI np) (nI nq) (nI nd) rt rp rq rd (nI (cnt - 1)) (nI na) sd rw rx tm tf sm sf), (rm 10, .inl (cI, 20, .inl (mp c))), (rm 12, .inl (cI, 280, .inl (shB bk 260)))] rfl dX6_note_46 ?_
        refine g_iconst (v := nI 0) hC dX6_note_49 rfl ?_
        refine g_istore_n (lv' := [(0, .ref mo), (1, .int (nI 0))]) hC [1, 0] dX6_note_50 rfl (by decide) rfl ?_
        have L51 : ∀ (n : Nat) (i2 : Nat) (ct : Nat) (b2 : Nat → Int32), (i2 ≤ 20) → (ct < 14) → (ct + 1 = ringN cnt) → (b2 = wrG (baB bk cnt) (20 * ct) (mp c) i2) → 20 - i2 < n → G p l e rm_X6_note s m args below meth cd D A 0 0 Q 2 [(mo, o6 rm (nI tl) pl (nI np) (nI nq) (nI nd) rt rp rq rd (nI ct) (nI na) sd rw rx tm tf sm sf), (rm 10, .inl (cI, 20, .inl (mp c))), (rm 12, .inl (cI, 280, .inl b2))] 51 [(0, .ref mo), (1, .int (nI i2))] [] := by
          intro n
          induction n with
          | zero => intro i2 ct b2 hi2 hc14 hct hb2 hn; exact absurd hn (Nat.not_lt_zero _)
          | succ n ih51 =>
            intro i2 ct b2 hi2 hc14 hct hb2 hn
            refine g_iload_n hC 1 dX6_note_51 rfl rfl ?_
            refine g_bipush (v := nI 20) hC dX6_note_52 (by decide +kernel) ?_
            refine g_icmp_ge_n (a := i2) (b := 20) hC (by omega) (by omega) 83 dX6_note_54 (by decide) (fun h54t => ?_) (fun h54f => ?_)
            · have ei2 : i2 = 20 := by omega
              have ec1 : ct = ringN cnt - 1 := by omega
              rw [ei2] at hb2
              have ecell : b2 = (bkN bk cnt c) := by rw [hb2, wrG_save, bkN, ← ec1]
              refine g_ws (ws2 := [(mo, o6 rm (nI tl) pl (nI np) (nI nq) (nI nd) rt rp rq rd (nI ct) (nI na) sd rw rx tm tf sm sf), (rm 10, .inl (cI, 20, .inl (mp c))), (rm 12, .inl (cI, 280, .inl (bkN bk cnt c)))]) (congrArg (fun zz : Nat → Int32 => ([(mo, o6 rm (nI tl) pl (nI np) (nI nq) (nI nd) rt rp rq rd (nI ct) (nI na) sd rw rx tm tf sm sf), (rm 10, .inl (cI, 20, .inl (mp c))), (rm 12, .inl (cI, 280, .inl zz))] : va_W)) ecell) ?_
              refine g_aload_n hC 0 dX6_note_83 rfl rfl ?_
              refine g_dup hC dX6_note_84 rfl ?_
              refine g_get (C := RX6) (T := TX6) (N := 38) (ci := 6) (v := .int (nI ct)) hC hcw6 0 rfl rfl 23 (by decide) w1 (fun _ h => h) rfl dX6_note_85 ?_
              refine g_iconst (v := nI 1) hC dX6_note_88 rfl ?_
              refine g_iadd_n (a := ct) (b := 1) hC dX6_note_89 ?_
              refine g_put (C := RX6) (T := TX6) (N := 38) (ci := 6) (v := .int (nI (ct + 1))) hC hcw6 tyX6 tyX6_ok nmX6 0 rfl rfl 23 (by decide) w1 (fun _ h => h) rfl (tyX6_ok 23 (by decide)) rfl rfl (Nat.le_of_ble_eq_true rfl) [(mo, o6 rm (nI tl) pl (nI np) (nI nq) (nI nd) rt rp rq rd (nI (ct + 1)) (nI na) sd rw rx tm tf sm sf), (rm 10, .inl (cI, 20, .inl (mp c))), (rm 12, .inl (cI, 280, .inl (bkN bk cnt c)))] rfl dX6_note_90 ?_
              have efld : (ct + 1 : Nat) = ringN cnt := by exact hct
              refine g_ws (ws2 := [(mo, o6 rm (nI tl) pl (nI np) (nI nq) (nI nd) rt rp rq rd (nI (ringN cnt)) (nI na) sd rw rx tm tf sm sf), (rm 10, .inl (cI, 20, .inl (mp c))), (rm 12, .inl (cI, 280, .inl (bkN bk cnt c)))]) (congrArg (fun zz : Nat => ([(mo, o6 rm (nI tl) pl (nI np) (nI nq) (nI nd) rt rp rq rd (nI zz) (nI na) sd rw rx tm tf sm sf), (rm 10, .inl (cI, 20, .inl (mp c))), (rm 12, .inl (cI, 280, .inl (bkN bk cnt c)))] : va_W)) efld) ?_
              subst hQ
              refine g_vret hC () hr ?_ rfl dX6_note_93
              trivial
            refine g_aload_n hC 0 dX6_note_57 rfl rfl ?_
            refine g_get (C := RX6) (T := TX6) (N := 38) (ci := 6) (v := .ref (rm 12)) hC hcw6 0 rfl rfl 22 (by decide) w2 (fun _ h => h) rfl dX6_note_58 ?_
            refine g_bipush (v := nI 20) hC dX6_note_61 (by decide +kernel) ?_
            refine g_aload_n hC 0 dX6_note_63 rfl rfl ?_
            refine g_get (C := RX6) (T := TX6) (N := 38) (ci := 6) (v := .int (nI ct)) hC hcw6 0 rfl rfl 23 (by decide) w1 (fun _ h => h) rfl dX6_note_64 ?_
            refine g_imul_n (a := 20) (b := ct) hC dX6_note_67 ?_
            refine g_iload_n hC 1 dX6_note_68 rfl rfl ?_
            refine g_iadd_n (a := (20 * ct)) (b := i2) hC dX6_note_69 ?_
            refine g_aload_n hC 0 dX6_note_70 rfl rfl ?_
            refine g_get (C := RX6) (T := TX6) (N := 38) (ci := 6) (v := .ref (rm 10)) hC hcw6 0 rfl rfl 20 (by decide) w3 (fun _ h => h) rfl dX6_note_71 ?_
            refine g_iload_n hC 1 dX6_note_74 rfl rfl ?_
            refine g_iald hC 1 rfl i2 rfl (by omega) (by decide) dX6_note_75 ?_
            refine g_iast hC 2 rfl (20 * ct + i2) rfl (by omega) (by decide) [(mo, o6 rm (nI tl) pl (nI np) (nI nq) (nI nd) rt rp rq rd (nI ct) (nI na) sd rw rx tm tf sm sf), (rm 10, .inl (cI, 20, .inl (mp c))), (rm 12, .inl (cI, 280, .inl (upd b2 (20 * ct + i2) ((mp c) i2))))] rfl dX6_note_76 ?_
            refine g_iinc (v := nI (i2 + 1)) (lv' := [(0, .ref mo), (1, .int (nI (i2 + 1)))]) hC 1 [1, 0] dX6_note_77 rfl (nI_add _ 1) (by decide) rfl ?_
            refine g_goto hC 51 dX6_note_80 (by decide) ?_
            refine ih51 (i2 + 1) ct (upd b2 (20 * ct + i2) ((mp c) i2)) ?_ ?_ ?_ ?_ ?_
            · omega
            · omega
            · omega
            · rw [hb2]; rfl
            · omega
        refine L51 _ 0 (cnt - 1) (shB bk 260) ?_ ?_ ?_ ?_ (Nat.lt_succ_self _)
        · omega
        · omega
        · unfold ringN; split <;> omega
        · show _ = baB bk cnt
          unfold baB
          first
            | rw [if_neg (by omega)]
            | rw [if_pos (by omega)]
      refine g_aload_n hC 0 dX6_note_18 rfl rfl ?_
      refine g_get (C := RX6) (T := TX6) (N := 38) (ci := 6) (v := .ref (rm 12)) hC hcw6 0 rfl rfl 22 (by decide) w2 (fun _ h => h) rfl dX6_note_19 ?_
      refine g_iload_n hC 1 dX6_note_22 rfl rfl ?_
      refine g_aload_n hC 0 dX6_note_23 rfl rfl ?_
      refine g_get (C := RX6) (T := TX6) (N := 38) (ci := 6) (v := .ref (rm 12)) hC hcw6 0 rfl rfl 22 (by decide) w2 (fun _ h => h) rfl dX6_note_24 ?_
      refine g_iload_n hC 1 dX6_note_27 rfl rfl ?_
      refine g_bipush (v := nI 20) hC dX6_note_28 (by decide +kernel) ?_
      refine g_iadd_n (a := i) (b := 20) hC dX6_note_30 ?_
      refine g_iald hC 2 rfl (i + 20) rfl (by omega) (by decide) dX6_note_31 ?_
      refine g_iast hC 2 rfl i rfl (by omega) (by decide) [(mo, o6 rm (nI tl) pl (nI np) (nI nq) (nI nd) rt rp rq rd (nI cnt) (nI na) sd rw rx tm tf sm sf), (rm 10, .inl (cI, 20, .inl (mp c))), (rm 12, .inl (cI, 280, .inl (upd bb i (bb (i + 20)))))] rfl dX6_note_32 ?_
      refine g_iinc (v := nI (i + 1)) (lv' := [(0, .ref mo), (1, .int (nI (i + 1)))]) hC 1 [1, 0] dX6_note_33 rfl (nI_add _ 1) (by decide) rfl ?_
      refine g_goto hC 11 dX6_note_36 (by decide) ?_
      refine ih11 (i + 1) (upd bb i (bb (i + 20))) ?_ ?_ ?_
      · omega
      · rw [hbb]; exact shB_s bk i
      · omega
  refine L11 _ 0 bk ?_ ?_ (Nat.lt_succ_self _)
  · omega
  · rw [shB_0]

abbrev rm_X6_begin : Room := { frames := 0, cells := 0, slots := 0, locals := 0 }
set_option maxRecDepth 100000 in
set_option maxHeartbeats 4000000 in
theorem c_X6_begin (l : Launch) (D : va_G) (cI cZ : ClassId) (mo : Nat) (rm : Nat → Nat) (tl : Nat) (pl : Int32) (np : Nat) (nq : Nat) (nd : Nat) (rt : Int32) (rp : Int32) (rq : Int32) (rd : Int32) (cnt : Nat) (na : Nat) (sd : Int64) (rw : Int32) (rx : Int32) (tm : Int32) (tf : Int32) (sm : Int32) (sf : Int32) (c : Nat → Int32) (g : Nat → Int32) : CtV l yX6_begin wsX6_begin rm_X6_begin D cI cZ [.ref mo] [(mo, o6 rm (nI tl) pl (nI np) (nI nq) (nI nd) rt rp rq rd (nI cnt) (nI na) sd rw rx tm tf sm sf), (rm 10, .inl (cI, 20, .inl (mp c))), (rm 11, .inl (cI, 20, .inl (mp g)))] (fun (_ : Unit) => True) (fun (_ : Unit) => [(mo, o6 rm (nI tl) pl (nI np) (nI nq) (nI nd) rt rp rq rd (nI cnt) (nI na) sd rw rx tm tf sm sf), (rm 10, .inl (cI, 20, .inl (mp c))), (rm 11, .inl (cI, 20, .inl (mp c)))]) 0 0 := by
  refine g_startV (ret := none) (own := RX6) (lv0 := [(0, .ref mo)]) (by decide) rfl rfl (Nat.le_of_ble_eq_true rfl) rfl ?_
  intro p e s m args below meth cd A Q hin hr hQ hC
  have hcw6 : ∀ w ∈ wsX60, w ∈ wsX6_begin := fun _ h => List.mem_cons_of_mem _ (List.mem_append_right _ h)
  have w1 := hC.1.2.2.2.2 (.fieldLink "PluckBrokerModel" 43 "PluckBrokerModel" "trial" "[I") (List.mem_of_getElem? (i := 1) rfl)
  have w2 := hC.1.2.2.2.2 (.fieldLink "PluckBrokerModel" 40 "PluckBrokerModel" "page" "[I") (List.mem_of_getElem? (i := 2) rfl)
  refine g_iconst (v := nI 0) hC dX6_begin_0 rfl ?_
  refine g_istore_n (lv' := [(0, .ref mo), (1, .int (nI 0))]) hC [1, 0] dX6_begin_1 rfl (by decide) rfl ?_
  have L2 : ∀ (n : Nat) (i : Nat) (tt : Nat → Int32), (i ≤ 20) → (tt = wrG (mp g) 0 (mp c) i) → 20 - i < n → G p l e rm_X6_begin s m args below meth cd D A 0 0 Q 2 [(mo, o6 rm (nI tl) pl (nI np) (nI nq) (nI nd) rt rp rq rd (nI cnt) (nI na) sd rw rx tm tf sm sf), (rm 10, .inl (cI, 20, .inl (mp c))), (rm 11, .inl (cI, 20, .inl tt))] 2 [(0, .ref mo), (1, .int (nI i))] [] := by
    intro n
    induction n with
    | zero => intro i tt hi htt hn; exact absurd hn (Nat.not_lt_zero _)
    | succ n ih2 =>
      intro i tt hi htt hn
      refine g_iload_n hC 1 dX6_begin_2 rfl rfl ?_
      refine g_bipush (v := nI 20) hC dX6_begin_3 (by decide +kernel) ?_
      refine g_icmp_ge_n (a := i) (b := 20) hC (by omega) (by omega) 26 dX6_begin_5 (by decide) (fun h5t => ?_) (fun h5f => ?_)
      · have ei : i = 20 := by omega
        rw [ei] at htt
        refine g_arr (f2 := (mp c)) 2 rfl (fun j hj => by rw [htt, wrG_at, if_pos (by omega), Nat.sub_zero]) [(mo, o6 rm (nI tl) pl (nI np) (nI nq) (nI nd) rt rp rq rd (nI cnt) (nI na) sd rw rx tm tf sm sf), (rm 10, .inl (cI, 20, .inl (mp c))), (rm 11, .inl (cI, 20, .inl (mp c)))] rfl ?_
        subst hQ
        refine g_vret hC () hr ?_ rfl dX6_begin_26
        trivial
      refine g_aload_n hC 0 dX6_begin_8 rfl rfl ?_
      refine g_get (C := RX6) (T := TX6) (N := 38) (ci := 6) (v := .ref (rm 11)) hC hcw6 0 rfl rfl 21 (by decide) w1 (fun _ h => h) rfl dX6_begin_9 ?_
      refine g_iload_n hC 1 dX6_begin_12 rfl rfl ?_
      refine g_aload_n hC 0 dX6_begin_13 rfl rfl ?_
      refine g_get (C := RX6) (T := TX6) (N := 38) (ci := 6) (v := .ref (rm 10)) hC hcw6 0 rfl rfl 20 (by decide) w2 (fun _ h => h) rfl dX6_begin_14 ?_
      refine g_iload_n hC 1 dX6_begin_17 rfl rfl ?_
      refine g_iald hC 1 rfl i rfl (by omega) (by decide) dX6_begin_18 ?_
      refine g_iast hC 2 rfl i rfl (by omega) (by decide) [(mo, o6 rm (nI tl) pl (nI np) (nI nq) (nI nd) rt rp rq rd (nI cnt) (nI na) sd rw rx tm tf sm sf), (rm 10, .inl (cI, 20, .inl (mp c))), (rm 11, .inl (cI, 20, .inl (upd tt i ((mp c) i))))] rfl dX6_begin_19 ?_
      refine g_iinc (v := nI (i + 1)) (lv' := [(0, .ref mo), (1, .int (nI (i + 1)))]) hC 1 [1, 0] dX6_begin_20 rfl (nI_add _ 1) (by decide) rfl ?_
      refine g_goto hC 2 dX6_begin_23 (by decide) ?_
      refine ih2 (i + 1) (upd tt i ((mp c) i)) ?_ ?_ ?_
      · omega
      · show upd tt i (mp c i) = upd (wrG (mp g) 0 (mp c) i) (0 + i) (mp c i)
        rw [Nat.zero_add, htt]
      · omega
  refine L2 _ 0 (mp g) ?_ ?_ (Nat.lt_succ_self _)
  · omega
  · rfl

abbrev rm_X6_goDays : Room := { frames := 1, cells := 0, slots := 0, locals := 24 }
set_option maxRecDepth 100000 in
set_option maxHeartbeats 4000000 in
theorem c_X6_goDays (l : Launch) (D : va_G) (cI cZ : ClassId) (mo : Nat) (rm : Nat → Nat) (tl : Nat) (pl : Int32) (np : Nat) (nq : Nat) (nd : Nat) (rt : Int32) (rp : Int32) (rq : Int32) (rd : Int32) (cnt : Nat) (na : Nat) (sd : Int64) (rw : Int32) (rx : Int32) (tm : Int32) (tf : Int32) (sm : Int32) (sf : Int32) (P : Nat → Nat → Nat) (g : Nat → Int32) (t : Nat) (dn : Nat) (hW : WFP np nq nd P) (hFr : Fr P nd g t) (ht : t ≤ 200) (hdn : dn ≤ 20) : CtV l yX6_goDays wsX6_goDays rm_X6_goDays D cI cZ [.ref mo, .int (nI dn)] [(mo, o6 rm (nI tl) pl (nI np) (nI nq) (nI nd) rt rp rq rd (nI cnt) (nI na) sd rw rx tm tf sm sf), (rm 1, .inl (cI, 5, .inl (fun k_ => nI (P 0 k_)))), (rm 3, .inl (cI, 5, .inl (fun k_ => nI (P 2 k_)))), (rm 4, .inl (cI, 5, .inl (fun k_ => nI (P 3 k_)))), (rm 5, .inl (cI, 5, .inl (fun k_ => nI (P 4 k_)))), (rm 6, .inl (cI, 5, .inl (fun k_ => nI (P 5 k_)))), (rm 11, .inl (cI, 20, .inl (mp g)))] (fun (_ : Unit) => True) (fun (_ : Unit) => [(mo, o6 rm (nI tl) pl (nI np) (nI nq) (nI nd) rt rp rq rd (nI cnt) (nI na) sd rw rx tm tf sm sf), (rm 1, .inl (cI, 5, .inl (fun k_ => nI (P 0 k_)))), (rm 3, .inl (cI, 5, .inl (fun k_ => nI (P 2 k_)))), (rm 4, .inl (cI, 5, .inl (fun k_ => nI (P 3 k_)))), (rm 5, .inl (cI, 5, .inl (fun k_ => nI (P 4 k_)))), (rm 6, .inl (cI, 5, .inl (fun k_ => nI (P 5 k_)))), (rm 11, .inl (cI, 20, .inl (mp (passN P nq nd g dn))))]) 0 0 := by
  refine g_startV (ret := none) (own := RX6) (lv0 := [(0, .ref mo), (1, .int (nI dn))]) (by decide) rfl rfl (Nat.le_of_ble_eq_true rfl) rfl ?_
  intro p e s m args below meth cd A Q hin hr hQ hC
  have hcw6 : ∀ w ∈ wsX60, w ∈ wsX6_goDays := fun _ h => List.mem_cons_of_mem _ (List.mem_append_right _ h)
  have w1 := hC.1.2.2.2.2 (.fieldLink "PluckBrokerModel" 43 "PluckBrokerModel" "trial" "[I") (List.mem_of_getElem? (i := 1) rfl)
  refine g_iconst (v := nI 0) hC dX6_goDays_0 rfl ?_
  refine g_istore_n (lv' := [(0, .ref mo), (1, .int (nI dn)), (2, .int (nI 0))]) hC [1, 2, 0] dX6_goDays_1 rfl (by decide) rfl ?_
  have L2 : ∀ (n : Nat) (i : Nat) (gg : Nat → Int32), (i ≤ dn) → (gg = passN P nq nd g i) → dn - i < n → G p l e rm_X6_goDays s m args below meth cd D A 0 0 Q 3 [(mo, o6 rm (nI tl) pl (nI np) (nI nq) (nI nd) rt rp rq rd (nI cnt) (nI na) sd rw rx tm tf sm sf), (rm 1, .inl (cI, 5, .inl (fun k_ => nI (P 0 k_)))), (rm 3, .inl (cI, 5, .inl (fun k_ => nI (P 2 k_)))), (rm 4, .inl (cI, 5, .inl (fun k_ => nI (P 3 k_)))), (rm 5, .inl (cI, 5, .inl (fun k_ => nI (P 4 k_)))), (rm 6, .inl (cI, 5, .inl (fun k_ => nI (P 5 k_)))), (rm 11, .inl (cI, 20, .inl (mp gg)))] 2 [(0, .ref mo), (1, .int (nI dn)), (2, .int (nI i))] [] := by
    intro n
    induction n with
    | zero => intro i gg hi hg hn; exact absurd hn (Nat.not_lt_zero _)
    | succ n ih2 =>
      intro i gg hi hg hn
      refine g_iload_n hC 2 dX6_goDays_2 rfl rfl ?_
      refine g_iload_n hC 1 dX6_goDays_3 rfl rfl ?_
      refine g_icmp_ge_n (a := i) (b := dn) hC (by omega) (by omega) 22 dX6_goDays_4 (by decide) (fun h4t => ?_) (fun h4f => ?_)
      · have ei : i = dn := by omega
        rw [ei] at hg
        have ecell : (mp gg) = (mp (passN P nq nd g dn)) := by rw [hg]
        refine g_ws (ws2 := [(mo, o6 rm (nI tl) pl (nI np) (nI nq) (nI nd) rt rp rq rd (nI cnt) (nI na) sd rw rx tm tf sm sf), (rm 1, .inl (cI, 5, .inl (fun k_ => nI (P 0 k_)))), (rm 3, .inl (cI, 5, .inl (fun k_ => nI (P 2 k_)))), (rm 4, .inl (cI, 5, .inl (fun k_ => nI (P 3 k_)))), (rm 5, .inl (cI, 5, .inl (fun k_ => nI (P 4 k_)))), (rm 6, .inl (cI, 5, .inl (fun k_ => nI (P 5 k_)))), (rm 11, .inl (cI, 20, .inl (mp (passN P nq nd g dn))))]) (congrArg (fun zz : Nat → Int32 => ([(mo, o6 rm (nI tl) pl (nI np) (nI nq) (nI nd) rt rp rq rd (nI cnt) (nI na) sd rw rx tm tf sm sf), (rm 1, .inl (cI, 5, .inl (fun k_ => nI (P 0 k_)))), (rm 3, .inl (cI, 5, .inl (fun k_ => nI (P 2 k_)))), (rm 4, .inl (cI, 5, .inl (fun k_ => nI (P 3 k_)))), (rm 5, .inl (cI, 5, .inl (fun k_ => nI (P 4 k_)))), (rm 6, .inl (cI, 5, .inl (fun k_ => nI (P 5 k_)))), (rm 11, .inl (cI, 20, .inl zz))] : va_W)) ecell) ?_
        subst hQ
        refine g_vret hC () hr ?_ rfl dX6_goDays_22
        trivial
      refine g_aload_n hC 0 dX6_goDays_7 rfl rfl ?_
      refine g_aload_n hC 0 dX6_goDays_8 rfl rfl ?_
      refine g_get (C := RX6) (T := TX6) (N := 38) (ci := 6) (v := .ref (rm 11)) hC hcw6 0 rfl rfl 21 (by decide) w1 (fun _ h => h) rfl dX6_goDays_9 ?_
      refine g_callVi (As := [.ref (rm 11)]) (rest := []) hC (c_X6_goDay l D cI cZ mo rm tl pl np nq nd rt rp rq rd cnt na sd rw rx tm tf sm sf P (rm 11) gg (by first | assumption | omega) (by rw [hg]; exact Fr_fresh hW (Fr_passN hW hFr i (by omega)) (by omega))) (cwV 1 hC.1.2.2.2.2 gX6_goDays_X6_goDay rfl rfl rfl dV_X6_goDay ⟨Nat.le_of_ble_eq_true rfl, Nat.le_of_ble_eq_true rfl⟩) rfl rfl rfl rfl (Nat.le_of_ble_eq_true rfl) dX6_goDays_12 ⟨Nat.le_of_ble_eq_true rfl, Nat.le_of_ble_eq_true rfl⟩ [0, 1, 2, 3, 4, 5, 6] [] [0, 1, 2, 3, 4, 5, 6] (fun (_ : Unit) => [(mo, o6 rm (nI tl) pl (nI np) (nI nq) (nI nd) rt rp rq rd (nI cnt) (nI na) sd rw rx tm tf sm sf), (rm 1, .inl (cI, 5, .inl (fun k_ => nI (P 0 k_)))), (rm 3, .inl (cI, 5, .inl (fun k_ => nI (P 2 k_)))), (rm 4, .inl (cI, 5, .inl (fun k_ => nI (P 3 k_)))), (rm 5, .inl (cI, 5, .inl (fun k_ => nI (P 4 k_)))), (rm 6, .inl (cI, 5, .inl (fun k_ => nI (P 5 k_)))), ((rm 11), .inl (cI, 20, .inl (mp (passF P nq nd gg))))]) rfl rfl rfl (fun _ => rfl) (fun r12 z12 hp12 => ?_)
      try dsimp only at hp12
      subst hp12
      refine g_is (ws2 := [(mo, o6 rm (nI tl) pl (nI np) (nI nq) (nI nd) rt rp rq rd (nI cnt) (nI na) sd rw rx tm tf sm sf), (rm 1, .inl (cI, 5, .inl (fun k_ => nI (P 0 k_)))), (rm 3, .inl (cI, 5, .inl (fun k_ => nI (P 2 k_)))), (rm 4, .inl (cI, 5, .inl (fun k_ => nI (P 3 k_)))), (rm 5, .inl (cI, 5, .inl (fun k_ => nI (P 4 k_)))), (rm 6, .inl (cI, 5, .inl (fun k_ => nI (P 5 k_)))), ((rm 11), .inl (cI, 20, .inl (mp (passF P nq nd gg))))]) (lv2 := [(0, .ref mo), (1, .int (nI dn)), (2, .int (nI i))]) (st2 := [.int (nI (cntD P gg nd))]) rfl rfl rfl ?_
      refine g_pop hC dX6_goDays_15 rfl ?_
      refine g_iinc (v := nI (i + 1)) (lv' := [(0, .ref mo), (1, .int (nI dn)), (2, .int (nI (i + 1)))]) hC 2 [1, 2, 0] dX6_goDays_16 rfl (nI_add _ 1) (by decide) rfl ?_
      refine g_goto hC 2 dX6_goDays_19 (by decide) ?_
      refine ih2 (i + 1) (passF P nq nd gg) ?_ ?_ ?_
      · omega
      · rw [hg]; rfl
      · omega
  refine L2 _ 0 g ?_ ?_ (Nat.lt_succ_self _)
  · omega
  · rfl

abbrev rm_X6_canPledge : Room := { frames := 0, cells := 0, slots := 0, locals := 0 }
set_option maxRecDepth 100000 in
set_option maxHeartbeats 4000000 in
theorem c_X6_canPledge (l : Launch) (D : va_G) (cI cZ : ClassId) (mo : Nat) (rm : Nat → Nat) (tl : Nat) (pl : Int32) (np : Nat) (nq : Nat) (nd : Nat) (rt : Int32) (rp : Int32) (rq : Int32) (rd : Int32) (cnt : Nat) (na : Nat) (sd : Int64) (rw : Int32) (rx : Int32) (tm : Int32) (tf : Int32) (sm : Int32) (sf : Int32) (P : Nat → Nat → Nat) (pa : Nat) (c : Nat → Int32) (k : Nat) (hW : WFP np nq nd P) (hk : k < nq) : CtI l yX6_canPledge wsX6_canPledge rm_X6_canPledge D cI cZ [.ref mo, .ref pa, .int (nI k)] [(mo, o6 rm (nI tl) pl (nI np) (nI nq) (nI nd) rt rp rq rd (nI cnt) (nI na) sd rw rx tm tf sm sf), (rm 2, .inl (cI, 5, .inl (fun k_ => nI (P 1 k_)))), (pa, .inl (cI, 20, .inl (mp c)))] (fun r (_ : Unit) => r = bI (canP P c k)) (fun (_ : Unit) => [(mo, o6 rm (nI tl) pl (nI np) (nI nq) (nI nd) rt rp rq rd (nI cnt) (nI na) sd rw rx tm tf sm sf), (rm 2, .inl (cI, 5, .inl (fun k_ => nI (P 1 k_)))), (pa, .inl (cI, 20, .inl (mp c)))]) 0 0 := by
  refine g_startI (ret := (some .boolean)) (own := RX6) (lv0 := [(0, .ref mo), (1, .ref pa), (2, .int (nI k))]) (by decide) rfl rfl (Nat.le_of_ble_eq_true rfl) rfl ?_
  intro p e s m args below meth cd A Q hin hr hQ hC
  have hcw6 : ∀ w ∈ wsX60, w ∈ wsX6_canPledge := fun _ h => List.mem_cons_of_mem _ (List.mem_append_right _ h)
  have w1 := hC.1.2.2.2.2 (.fieldLink "PluckBrokerModel" 16 "PluckBrokerModel" "worth" "[I") (List.mem_of_getElem? (i := 1) rfl)
  obtain ⟨⟨hnp, hnq, hnd⟩, hq4, hd5⟩ := id hW
  obtain ⟨ho3, hw1, hw9, hk3⟩ := hq4 k hk
  refine g_aload_n hC 1 dX6_canPledge_0 rfl rfl ?_
  refine g_iconst (v := nI 4) hC dX6_canPledge_1 rfl ?_
  refine g_iload_n hC 2 dX6_canPledge_2 rfl rfl ?_
  refine g_iadd_n (a := 4) (b := k) hC dX6_canPledge_3 ?_
  refine g_iald hC 2 rfl (4 + k) rfl (by omega) (by decide) dX6_canPledge_4 ?_
  refine g_top (y := c (5 + k)) (mp_4 _ (by omega)) ?_
  refine g_if_ne hC 24 dX6_canPledge_5 (by decide) (fun h5t => ?_) (fun h5f => ?_)
  · refine g_iconst (v := nI 0) hC dX6_canPledge_24 rfl ?_
    subst hQ
    refine g_zret (v := nI 0) hC () hr (by decide +kernel) ?_ rfl dX6_canPledge_25
    refine (bI_f (fun q => h5t ?_)).symm
    exact q.1
  refine g_aload_n hC 1 dX6_canPledge_8 rfl rfl ?_
  refine g_iconst (v := nI 0) hC dX6_canPledge_9 rfl ?_
  refine g_iald hC 2 rfl 0 rfl (by omega) (by decide) dX6_canPledge_10 ?_
  refine g_top (y := c 0) (mp_0 _) ?_
  refine g_aload_n hC 0 dX6_canPledge_11 rfl rfl ?_
  refine g_get (C := RX6) (T := TX6) (N := 38) (ci := 6) (v := .ref (rm 2)) hC hcw6 0 rfl rfl 7 (by decide) w1 (fun _ h => h) rfl dX6_canPledge_12 ?_
  refine g_iload_n hC 2 dX6_canPledge_15 rfl rfl ?_
  refine g_iald hC 1 rfl k rfl (by omega) (by decide) dX6_canPledge_16 ?_
  refine g_icmp_lt hC 24 dX6_canPledge_17 (by decide) (fun h17t => ?_) (fun h17f => ?_)
  · refine g_iconst (v := nI 0) hC dX6_canPledge_24 rfl ?_
    subst hQ
    refine g_zret (v := nI 0) hC () hr (by decide +kernel) ?_ rfl dX6_canPledge_25
    exact (bI_f (fun q => absurd q.2 (Int32.not_le.mpr h17t))).symm
  refine g_iconst (v := nI 1) hC dX6_canPledge_20 rfl ?_
  refine g_goto hC 25 dX6_canPledge_21 (by decide) ?_
  subst hQ
  refine g_zret (v := nI 1) hC () hr (by decide +kernel) ?_ rfl dX6_canPledge_25
  exact (bI_t ⟨h5f, Int32.not_lt.mp h17f⟩).symm

abbrev rm_X6_goPledge : Room := { frames := 0, cells := 0, slots := 0, locals := 0 }
set_option maxRecDepth 100000 in
set_option maxHeartbeats 4000000 in
theorem c_X6_goPledge (l : Launch) (D : va_G) (cI cZ : ClassId) (mo : Nat) (rm : Nat → Nat) (tl : Nat) (pl : Int32) (np : Nat) (nq : Nat) (nd : Nat) (rt : Int32) (rp : Int32) (rq : Int32) (rd : Int32) (cnt : Nat) (na : Nat) (sd : Int64) (rw : Int32) (rx : Int32) (tm : Int32) (tf : Int32) (sm : Int32) (sf : Int32) (P : Nat → Nat → Nat) (pa : Nat) (c : Nat → Int32) (k : Nat) (hW : WFP np nq nd P) (hk : k < nq) : CtV l yX6_goPledge wsX6_goPledge rm_X6_goPledge D cI cZ [.ref mo, .ref pa, .int (nI k)] [(mo, o6 rm (nI tl) pl (nI np) (nI nq) (nI nd) rt rp rq rd (nI cnt) (nI na) sd rw rx tm tf sm sf), (rm 1, .inl (cI, 5, .inl (fun k_ => nI (P 0 k_)))), (rm 2, .inl (cI, 5, .inl (fun k_ => nI (P 1 k_)))), (pa, .inl (cI, 20, .inl (mp c)))] (fun (_ : Unit) => True) (fun (_ : Unit) => [(mo, o6 rm (nI tl) pl (nI np) (nI nq) (nI nd) rt rp rq rd (nI cnt) (nI na) sd rw rx tm tf sm sf), (rm 1, .inl (cI, 5, .inl (fun k_ => nI (P 0 k_)))), (rm 2, .inl (cI, 5, .inl (fun k_ => nI (P 1 k_)))), (pa, .inl (cI, 20, .inl (mp (pledgeF P c k))))]) 0 0 := by
  refine g_startV (ret := none) (own := RX6) (lv0 := [(0, .ref mo), (1, .ref pa), (2, .int (nI k))]) (by decide) rfl rfl (Nat.le_of_ble_eq_true rfl) rfl ?_
  intro p e s m args below meth cd A Q hin hr hQ hC
  have hcw6 : ∀ w ∈ wsX60, w ∈ wsX6_goPledge := fun _ h => List.mem_cons_of_mem _ (List.mem_append_right _ h)
  have w1 := hC.1.2.2.2.2 (.fieldLink "PluckBrokerModel" 16 "PluckBrokerModel" "worth" "[I") (List.mem_of_getElem? (i := 1) rfl)
  have w2 := hC.1.2.2.2.2 (.fieldLink "PluckBrokerModel" 13 "PluckBrokerModel" "owner" "[I") (List.mem_of_getElem? (i := 2) rfl)
  obtain ⟨⟨hnp, hnq, hnd⟩, hq4, hd5⟩ := id hW
  obtain ⟨ho3, hw1, hw9, hk3⟩ := hq4 k hk
  refine g_aload_n hC 1 dX6_goPledge_0 rfl rfl ?_
  refine g_iconst (v := nI 4) hC dX6_goPledge_1 rfl ?_
  refine g_iload_n hC 2 dX6_goPledge_2 rfl rfl ?_
  refine g_iadd_n (a := 4) (b := k) hC dX6_goPledge_3 ?_
  refine g_iconst (v := nI 1) hC dX6_goPledge_4 rfl ?_
  refine g_iast hC 3 rfl (4 + k) rfl (by omega) (by decide) [(mo, o6 rm (nI tl) pl (nI np) (nI nq) (nI nd) rt rp rq rd (nI cnt) (nI na) sd rw rx tm tf sm sf), (rm 1, .inl (cI, 5, .inl (fun k_ => nI (P 0 k_)))), (rm 2, .inl (cI, 5, .inl (fun k_ => nI (P 1 k_)))), (pa, .inl (cI, 20, .inl (upd (mp c) (4 + k) (nI 1))))] rfl dX6_goPledge_5 ?_
  refine g_ws (ws2 := [(mo, o6 rm (nI tl) pl (nI np) (nI nq) (nI nd) rt rp rq rd (nI cnt) (nI na) sd rw rx tm tf sm sf), (rm 1, .inl (cI, 5, .inl (fun k_ => nI (P 0 k_)))), (rm 2, .inl (cI, 5, .inl (fun k_ => nI (P 1 k_)))), (pa, .inl (cI, 20, .inl (mp (upd c (5 + k) (nI 1)))))]) (congrArg (fun zz : Nat → Int32 => ([(mo, o6 rm (nI tl) pl (nI np) (nI nq) (nI nd) rt rp rq rd (nI cnt) (nI na) sd rw rx tm tf sm sf), (rm 1, .inl (cI, 5, .inl (fun k_ => nI (P 0 k_)))), (rm 2, .inl (cI, 5, .inl (fun k_ => nI (P 1 k_)))), (pa, .inl (cI, 20, .inl zz))] : va_W)) (mpu_4 _ _ (by omega))) ?_
  refine g_aload_n hC 1 dX6_goPledge_6 rfl rfl ?_
  refine g_bipush (v := nI 9) hC dX6_goPledge_7 (by decide +kernel) ?_
  refine g_iload_n hC 2 dX6_goPledge_9 rfl rfl ?_
  refine g_iadd_n (a := 9) (b := k) hC dX6_goPledge_10 ?_
  refine g_aload_n hC 1 dX6_goPledge_11 rfl rfl ?_
  refine g_bipush (v := nI 19) hC dX6_goPledge_12 (by decide +kernel) ?_
  refine g_iald hC 3 rfl 19 rfl (by omega) (by decide) dX6_goPledge_14 ?_
  refine g_top (y := (upd c (5 + k) (nI 1)) 1) (mp_19 _) ?_
  refine g_top (y := c 1) (upd_ne _ _ (by omega)) ?_
  refine g_iast hC 3 rfl (9 + k) rfl (by omega) (by decide) [(mo, o6 rm (nI tl) pl (nI np) (nI nq) (nI nd) rt rp rq rd (nI cnt) (nI na) sd rw rx tm tf sm sf), (rm 1, .inl (cI, 5, .inl (fun k_ => nI (P 0 k_)))), (rm 2, .inl (cI, 5, .inl (fun k_ => nI (P 1 k_)))), (pa, .inl (cI, 20, .inl (upd (mp (upd c (5 + k) (nI 1))) (9 + k) (c 1))))] rfl dX6_goPledge_15 ?_
  refine g_ws (ws2 := [(mo, o6 rm (nI tl) pl (nI np) (nI nq) (nI nd) rt rp rq rd (nI cnt) (nI na) sd rw rx tm tf sm sf), (rm 1, .inl (cI, 5, .inl (fun k_ => nI (P 0 k_)))), (rm 2, .inl (cI, 5, .inl (fun k_ => nI (P 1 k_)))), (pa, .inl (cI, 20, .inl (mp (upd (upd c (5 + k) (nI 1)) (10 + k) (c 1)))))]) (congrArg (fun zz : Nat → Int32 => ([(mo, o6 rm (nI tl) pl (nI np) (nI nq) (nI nd) rt rp rq rd (nI cnt) (nI na) sd rw rx tm tf sm sf), (rm 1, .inl (cI, 5, .inl (fun k_ => nI (P 0 k_)))), (rm 2, .inl (cI, 5, .inl (fun k_ => nI (P 1 k_)))), (pa, .inl (cI, 20, .inl zz))] : va_W)) (mpu_9 _ _ (by omega))) ?_
  refine g_aload_n hC 1 dX6_goPledge_16 rfl rfl ?_
  refine g_iconst (v := nI 0) hC dX6_goPledge_17 rfl ?_
  refine g_dup2 hC dX6_goPledge_18 rfl rfl ?_
  refine g_iald hC 3 rfl 0 rfl (by omega) (by decide) dX6_goPledge_19 ?_
  refine g_top (y := (upd (upd c (5 + k) (nI 1)) (10 + k) (c 1)) 0) (mp_0 _) ?_
  refine g_top (y := c 0) (by rw [upd_ne _ _ (by omega), upd_ne _ _ (by omega)]) ?_
  refine g_aload_n hC 0 dX6_goPledge_20 rfl rfl ?_
  refine g_get (C := RX6) (T := TX6) (N := 38) (ci := 6) (v := .ref (rm 2)) hC hcw6 0 rfl rfl 7 (by decide) w1 (fun _ h => h) rfl dX6_goPledge_21 ?_
  refine g_iload_n hC 2 dX6_goPledge_24 rfl rfl ?_
  refine g_iald hC 2 rfl k rfl (by omega) (by decide) dX6_goPledge_25 ?_
  refine g_isub hC dX6_goPledge_26 ?_
  refine g_iast hC 3 rfl 0 rfl (by omega) (by decide) [(mo, o6 rm (nI tl) pl (nI np) (nI nq) (nI nd) rt rp rq rd (nI cnt) (nI na) sd rw rx tm tf sm sf), (rm 1, .inl (cI, 5, .inl (fun k_ => nI (P 0 k_)))), (rm 2, .inl (cI, 5, .inl (fun k_ => nI (P 1 k_)))), (pa, .inl (cI, 20, .inl (upd (mp (upd (upd c (5 + k) (nI 1)) (10 + k) (c 1))) 0 ((c 0) - (nI (P 1 k))))))] rfl dX6_goPledge_27 ?_
  refine g_ws (ws2 := [(mo, o6 rm (nI tl) pl (nI np) (nI nq) (nI nd) rt rp rq rd (nI cnt) (nI na) sd rw rx tm tf sm sf), (rm 1, .inl (cI, 5, .inl (fun k_ => nI (P 0 k_)))), (rm 2, .inl (cI, 5, .inl (fun k_ => nI (P 1 k_)))), (pa, .inl (cI, 20, .inl (mp (upd (upd (upd c (5 + k) (nI 1)) (10 + k) (c 1)) 0 ((c 0) - (nI (P 1 k)))))))]) (congrArg (fun zz : Nat → Int32 => ([(mo, o6 rm (nI tl) pl (nI np) (nI nq) (nI nd) rt rp rq rd (nI cnt) (nI na) sd rw rx tm tf sm sf), (rm 1, .inl (cI, 5, .inl (fun k_ => nI (P 0 k_)))), (rm 2, .inl (cI, 5, .inl (fun k_ => nI (P 1 k_)))), (pa, .inl (cI, 20, .inl zz))] : va_W)) (mpu_0 _ _)) ?_
  refine g_aload_n hC 1 dX6_goPledge_28 rfl rfl ?_
  refine g_iconst (v := nI 1) hC dX6_goPledge_29 rfl ?_
  refine g_aload_n hC 0 dX6_goPledge_30 rfl rfl ?_
  refine g_get (C := RX6) (T := TX6) (N := 38) (ci := 6) (v := .ref (rm 1)) hC hcw6 0 rfl rfl 6 (by decide) w2 (fun _ h => h) rfl dX6_goPledge_31 ?_
  refine g_iload_n hC 2 dX6_goPledge_34 rfl rfl ?_
  refine g_iald hC 1 rfl k rfl (by omega) (by decide) dX6_goPledge_35 ?_
  refine g_iadd_n (a := 1) (b := (P 0 k)) hC dX6_goPledge_36 ?_
  refine g_dup2 hC dX6_goPledge_37 rfl rfl ?_
  refine g_iald hC 3 rfl (1 + (P 0 k)) rfl (by omega) (by decide) dX6_goPledge_38 ?_
  refine g_top (y := (upd (upd (upd c (5 + k) (nI 1)) (10 + k) (c 1)) 0 ((c 0) - (nI (P 1 k)))) (2 + (P 0 k))) (mp_1 _ (by omega)) ?_
  refine g_top (y := c (2 + P 0 k)) (by rw [upd_ne _ _ (by omega), upd_ne _ _ (by omega), upd_ne _ _ (by omega)]) ?_
  refine g_aload_n hC 0 dX6_goPledge_39 rfl rfl ?_
  refine g_get (C := RX6) (T := TX6) (N := 38) (ci := 6) (v := .ref (rm 2)) hC hcw6 0 rfl rfl 7 (by decide) w1 (fun _ h => h) rfl dX6_goPledge_40 ?_
  refine g_iload_n hC 2 dX6_goPledge_43 rfl rfl ?_
  refine g_iald hC 2 rfl k rfl (by omega) (by decide) dX6_goPledge_44 ?_
  refine g_iadd hC dX6_goPledge_45 ?_
  refine g_iast hC 3 rfl (1 + (P 0 k)) rfl (by omega) (by decide) [(mo, o6 rm (nI tl) pl (nI np) (nI nq) (nI nd) rt rp rq rd (nI cnt) (nI na) sd rw rx tm tf sm sf), (rm 1, .inl (cI, 5, .inl (fun k_ => nI (P 0 k_)))), (rm 2, .inl (cI, 5, .inl (fun k_ => nI (P 1 k_)))), (pa, .inl (cI, 20, .inl (upd (mp (upd (upd (upd c (5 + k) (nI 1)) (10 + k) (c 1)) 0 ((c 0) - (nI (P 1 k))))) (1 + (P 0 k)) ((c (2 + P 0 k)) + (nI (P 1 k))))))] rfl dX6_goPledge_46 ?_
  refine g_ws (ws2 := [(mo, o6 rm (nI tl) pl (nI np) (nI nq) (nI nd) rt rp rq rd (nI cnt) (nI na) sd rw rx tm tf sm sf), (rm 1, .inl (cI, 5, .inl (fun k_ => nI (P 0 k_)))), (rm 2, .inl (cI, 5, .inl (fun k_ => nI (P 1 k_)))), (pa, .inl (cI, 20, .inl (mp (upd (upd (upd (upd c (5 + k) (nI 1)) (10 + k) (c 1)) 0 ((c 0) - (nI (P 1 k)))) (2 + (P 0 k)) ((c (2 + P 0 k)) + (nI (P 1 k)))))))]) (congrArg (fun zz : Nat → Int32 => ([(mo, o6 rm (nI tl) pl (nI np) (nI nq) (nI nd) rt rp rq rd (nI cnt) (nI na) sd rw rx tm tf sm sf), (rm 1, .inl (cI, 5, .inl (fun k_ => nI (P 0 k_)))), (rm 2, .inl (cI, 5, .inl (fun k_ => nI (P 1 k_)))), (pa, .inl (cI, 20, .inl zz))] : va_W)) (mpu_1 _ _ (by omega))) ?_
  have ecell : (mp (upd (upd (upd (upd c (5 + k) (nI 1)) (10 + k) (c 1)) 0 ((c 0) - (nI (P 1 k)))) (2 + (P 0 k)) ((c (2 + P 0 k)) + (nI (P 1 k))))) = (mp (pledgeF P c k)) := by rw [pl_ord c (by omega) (by omega)]; rfl
  refine g_ws (ws2 := [(mo, o6 rm (nI tl) pl (nI np) (nI nq) (nI nd) rt rp rq rd (nI cnt) (nI na) sd rw rx tm tf sm sf), (rm 1, .inl (cI, 5, .inl (fun k_ => nI (P 0 k_)))), (rm 2, .inl (cI, 5, .inl (fun k_ => nI (P 1 k_)))), (pa, .inl (cI, 20, .inl (mp (pledgeF P c k))))]) (congrArg (fun zz : Nat → Int32 => ([(mo, o6 rm (nI tl) pl (nI np) (nI nq) (nI nd) rt rp rq rd (nI cnt) (nI na) sd rw rx tm tf sm sf), (rm 1, .inl (cI, 5, .inl (fun k_ => nI (P 0 k_)))), (rm 2, .inl (cI, 5, .inl (fun k_ => nI (P 1 k_)))), (pa, .inl (cI, 20, .inl zz))] : va_W)) ecell) ?_
  subst hQ
  refine g_vret hC () hr ?_ rfl dX6_goPledge_47
  trivial

abbrev rm_X6_canRedeem : Room := { frames := 2, cells := 0, slots := 0, locals := 45 }
set_option maxRecDepth 100000 in
set_option maxHeartbeats 4000000 in
theorem c_X6_canRedeem (l : Launch) (D : va_G) (cI cZ : ClassId) (mo : Nat) (rm : Nat → Nat) (tl : Nat) (pl : Int32) (np : Nat) (nq : Nat) (nd : Nat) (rt : Int32) (rp : Int32) (rq : Int32) (rd : Int32) (cnt : Nat) (na : Nat) (sd : Int64) (rw : Int32) (rx : Int32) (tm : Int32) (tf : Int32) (sm : Int32) (sf : Int32) (P : Nat → Nat → Nat) (pa : Nat) (c : Nat → Int32) (k : Nat) (hW : WFP np nq nd P) (hk : k < nq) : CtI l yX6_canRedeem wsX6_canRedeem rm_X6_canRedeem D cI cZ [.ref mo, .ref pa, .int (nI k)] [(mo, o6 rm (nI tl) pl (nI np) (nI nq) (nI nd) rt rp rq rd (nI cnt) (nI na) sd rw rx tm tf sm sf), (rm 1, .inl (cI, 5, .inl (fun k_ => nI (P 0 k_)))), (rm 2, .inl (cI, 5, .inl (fun k_ => nI (P 1 k_)))), (rm 3, .inl (cI, 5, .inl (fun k_ => nI (P 2 k_)))), (pa, .inl (cI, 20, .inl (mp c)))] (fun r (_ : Unit) => r = bI (canR P c k)) (fun (_ : Unit) => [(mo, o6 rm (nI tl) pl (nI np) (nI nq) (nI nd) rt rp rq rd (nI cnt) (nI na) sd rw rx tm tf sm sf), (rm 1, .inl (cI, 5, .inl (fun k_ => nI (P 0 k_)))), (rm 2, .inl (cI, 5, .inl (fun k_ => nI (P 1 k_)))), (rm 3, .inl (cI, 5, .inl (fun k_ => nI (P 2 k_)))), (pa, .inl (cI, 20, .inl (mp c)))]) 0 0 := by
  refine g_startI (ret := (some .boolean)) (own := RX6) (lv0 := [(0, .ref mo), (1, .ref pa), (2, .int (nI k))]) (by decide) rfl rfl (Nat.le_of_ble_eq_true rfl) rfl ?_
  intro p e s m args below meth cd A Q hin hr hQ hC
  have hcw6 : ∀ w ∈ wsX60, w ∈ wsX6_canRedeem := fun _ h => List.mem_cons_of_mem _ (List.mem_append_right _ h)
  have w1 := hC.1.2.2.2.2 (.fieldLink "PluckBrokerModel" 13 "PluckBrokerModel" "owner" "[I") (List.mem_of_getElem? (i := 1) rfl)
  obtain ⟨⟨hnp, hnq, hnd⟩, hq4, hd5⟩ := id hW
  obtain ⟨ho3, hw1, hw9, hk3⟩ := hq4 k hk
  refine g_aload_n hC 1 dX6_canRedeem_0 rfl rfl ?_
  refine g_iconst (v := nI 4) hC dX6_canRedeem_1 rfl ?_
  refine g_iload_n hC 2 dX6_canRedeem_2 rfl rfl ?_
  refine g_iadd_n (a := 4) (b := k) hC dX6_canRedeem_3 ?_
  refine g_iald hC 4 rfl (4 + k) rfl (by omega) (by decide) dX6_canRedeem_4 ?_
  refine g_top (y := c (5 + k)) (mp_4 _ (by omega)) ?_
  refine g_iconst (v := nI 1) hC dX6_canRedeem_5 rfl ?_
  refine g_icmp_ne hC 32 dX6_canRedeem_6 (by decide) (fun h6t => ?_) (fun h6f => ?_)
  · refine g_iconst (v := nI 0) hC dX6_canRedeem_32 rfl ?_
    subst hQ
    refine g_zret (v := nI 0) hC () hr (by decide +kernel) ?_ rfl dX6_canRedeem_33
    refine (bI_f (fun q => h6t ?_)).symm
    exact q.1
  refine g_aload_n hC 1 dX6_canRedeem_9 rfl rfl ?_
  refine g_iconst (v := nI 1) hC dX6_canRedeem_10 rfl ?_
  refine g_aload_n hC 0 dX6_canRedeem_11 rfl rfl ?_
  refine g_get (C := RX6) (T := TX6) (N := 38) (ci := 6) (v := .ref (rm 1)) hC hcw6 0 rfl rfl 6 (by decide) w1 (fun _ h => h) rfl dX6_canRedeem_12 ?_
  refine g_iload_n hC 2 dX6_canRedeem_15 rfl rfl ?_
  refine g_iald hC 1 rfl k rfl (by omega) (by decide) dX6_canRedeem_16 ?_
  refine g_iadd_n (a := 1) (b := (P 0 k)) hC dX6_canRedeem_17 ?_
  refine g_iald hC 4 rfl (1 + (P 0 k)) rfl (by omega) (by decide) dX6_canRedeem_18 ?_
  refine g_top (y := c (2 + (P 0 k))) (mp_1 _ (by omega)) ?_
  refine g_aload_n hC 0 dX6_canRedeem_19 rfl rfl ?_
  refine g_aload_n hC 1 dX6_canRedeem_20 rfl rfl ?_
  refine g_iload_n hC 2 dX6_canRedeem_21 rfl rfl ?_
  refine g_callVip (As := [.ref pa, .int (nI k)]) (rest := [.int (c (2 + (P 0 k)))]) hC (owed P c k) (c_X6_dueOf l D cI cZ mo rm tl pl np nq nd rt rp rq rd cnt na sd rw rx tm tf sm sf P pa c k (by omega)) (cwV 2 hC.1.2.2.2.2 gX6_canRedeem_X6_dueOf rfl rfl rfl dV_X6_dueOf ⟨Nat.le_of_ble_eq_true rfl, Nat.le_of_ble_eq_true rfl⟩) rfl rfl rfl rfl (Nat.le_of_ble_eq_true rfl) dX6_canRedeem_22 ⟨Nat.le_of_ble_eq_true rfl, Nat.le_of_ble_eq_true rfl⟩ [0, 2, 3, 4] rfl rfl ?_
  refine g_icmp_lt hC 32 dX6_canRedeem_25 (by decide) (fun h25t => ?_) (fun h25f => ?_)
  · refine g_iconst (v := nI 0) hC dX6_canRedeem_32 rfl ?_
    subst hQ
    refine g_zret (v := nI 0) hC () hr (by decide +kernel) ?_ rfl dX6_canRedeem_33
    exact (bI_f (fun q => absurd q.2 (Int32.not_le.mpr h25t))).symm
  refine g_iconst (v := nI 1) hC dX6_canRedeem_28 rfl ?_
  refine g_goto hC 33 dX6_canRedeem_29 (by decide) ?_
  subst hQ
  refine g_zret (v := nI 1) hC () hr (by decide +kernel) ?_ rfl dX6_canRedeem_33
  exact (bI_t ⟨h6f, Int32.not_lt.mp h25f⟩).symm

abbrev rm_X6_goRedeem : Room := { frames := 2, cells := 0, slots := 0, locals := 45 }
set_option maxRecDepth 100000 in
set_option maxHeartbeats 4000000 in
theorem c_X6_goRedeem (l : Launch) (D : va_G) (cI cZ : ClassId) (mo : Nat) (rm : Nat → Nat) (tl : Nat) (pl : Int32) (np : Nat) (nq : Nat) (nd : Nat) (rt : Int32) (rp : Int32) (rq : Int32) (rd : Int32) (cnt : Nat) (na : Nat) (sd : Int64) (rw : Int32) (rx : Int32) (tm : Int32) (tf : Int32) (sm : Int32) (sf : Int32) (P : Nat → Nat → Nat) (pa : Nat) (c : Nat → Int32) (k : Nat) (hW : WFP np nq nd P) (hk : k < nq) : CtV l yX6_goRedeem wsX6_goRedeem rm_X6_goRedeem D cI cZ [.ref mo, .ref pa, .int (nI k)] [(mo, o6 rm (nI tl) pl (nI np) (nI nq) (nI nd) rt rp rq rd (nI cnt) (nI na) sd rw rx tm tf sm sf), (rm 1, .inl (cI, 5, .inl (fun k_ => nI (P 0 k_)))), (rm 2, .inl (cI, 5, .inl (fun k_ => nI (P 1 k_)))), (rm 3, .inl (cI, 5, .inl (fun k_ => nI (P 2 k_)))), (pa, .inl (cI, 20, .inl (mp c)))] (fun (_ : Unit) => True) (fun (_ : Unit) => [(mo, o6 rm (nI tl) pl (nI np) (nI nq) (nI nd) rt rp rq rd (nI cnt) (nI na) sd rw rx tm tf sm sf), (rm 1, .inl (cI, 5, .inl (fun k_ => nI (P 0 k_)))), (rm 2, .inl (cI, 5, .inl (fun k_ => nI (P 1 k_)))), (rm 3, .inl (cI, 5, .inl (fun k_ => nI (P 2 k_)))), (pa, .inl (cI, 20, .inl (mp (redeemF P c k))))]) 0 0 := by
  refine g_startV (ret := none) (own := RX6) (lv0 := [(0, .ref mo), (1, .ref pa), (2, .int (nI k))]) (by decide) rfl rfl (Nat.le_of_ble_eq_true rfl) rfl ?_
  intro p e s m args below meth cd A Q hin hr hQ hC
  have hcw6 : ∀ w ∈ wsX60, w ∈ wsX6_goRedeem := fun _ h => List.mem_cons_of_mem _ (List.mem_append_right _ h)
  have w1 := hC.1.2.2.2.2 (.fieldLink "PluckBrokerModel" 13 "PluckBrokerModel" "owner" "[I") (List.mem_of_getElem? (i := 1) rfl)
  obtain ⟨⟨hnp, hnq, hnd⟩, hq4, hd5⟩ := id hW
  obtain ⟨ho3, hw1, hw9, hk3⟩ := hq4 k hk
  refine g_aload_n hC 0 dX6_goRedeem_0 rfl rfl ?_
  refine g_aload_n hC 1 dX6_goRedeem_1 rfl rfl ?_
  refine g_iload_n hC 2 dX6_goRedeem_2 rfl rfl ?_
  refine g_callVip (As := [.ref pa, .int (nI k)]) (rest := []) hC (owed P c k) (c_X6_dueOf l D cI cZ mo rm tl pl np nq nd rt rp rq rd cnt na sd rw rx tm tf sm sf P pa c k (by omega)) (cwV 2 hC.1.2.2.2.2 gX6_goRedeem_X6_dueOf rfl rfl rfl dV_X6_dueOf ⟨Nat.le_of_ble_eq_true rfl, Nat.le_of_ble_eq_true rfl⟩) rfl rfl rfl rfl (Nat.le_of_ble_eq_true rfl) dX6_goRedeem_3 ⟨Nat.le_of_ble_eq_true rfl, Nat.le_of_ble_eq_true rfl⟩ [0, 2, 3, 4] rfl rfl ?_
  refine g_istore_n (lv' := [(0, .ref mo), (1, .ref pa), (2, .int (nI k)), (3, .int (owed P c k))]) hC [1, 2, 3, 0] dX6_goRedeem_6 rfl (by decide) rfl ?_
  refine g_aload_n hC 1 dX6_goRedeem_7 rfl rfl ?_
  refine g_iconst (v := nI 4) hC dX6_goRedeem_8 rfl ?_
  refine g_iload_n hC 2 dX6_goRedeem_9 rfl rfl ?_
  refine g_iadd_n (a := 4) (b := k) hC dX6_goRedeem_10 ?_
  refine g_iconst (v := nI 0) hC dX6_goRedeem_11 rfl ?_
  refine g_iast hC 4 rfl (4 + k) rfl (by omega) (by decide) [(mo, o6 rm (nI tl) pl (nI np) (nI nq) (nI nd) rt rp rq rd (nI cnt) (nI na) sd rw rx tm tf sm sf), (rm 1, .inl (cI, 5, .inl (fun k_ => nI (P 0 k_)))), (rm 2, .inl (cI, 5, .inl (fun k_ => nI (P 1 k_)))), (rm 3, .inl (cI, 5, .inl (fun k_ => nI (P 2 k_)))), (pa, .inl (cI, 20, .inl (upd (mp c) (4 + k) (nI 0))))] rfl dX6_goRedeem_12 ?_
  refine g_ws (ws2 := [(mo, o6 rm (nI tl) pl (nI np) (nI nq) (nI nd) rt rp rq rd (nI cnt) (nI na) sd rw rx tm tf sm sf), (rm 1, .inl (cI, 5, .inl (fun k_ => nI (P 0 k_)))), (rm 2, .inl (cI, 5, .inl (fun k_ => nI (P 1 k_)))), (rm 3, .inl (cI, 5, .inl (fun k_ => nI (P 2 k_)))), (pa, .inl (cI, 20, .inl (mp (upd c (5 + k) (nI 0)))))]) (congrArg (fun zz : Nat → Int32 => ([(mo, o6 rm (nI tl) pl (nI np) (nI nq) (nI nd) rt rp rq rd (nI cnt) (nI na) sd rw rx tm tf sm sf), (rm 1, .inl (cI, 5, .inl (fun k_ => nI (P 0 k_)))), (rm 2, .inl (cI, 5, .inl (fun k_ => nI (P 1 k_)))), (rm 3, .inl (cI, 5, .inl (fun k_ => nI (P 2 k_)))), (pa, .inl (cI, 20, .inl zz))] : va_W)) (mpu_4 _ _ (by omega))) ?_
  refine g_aload_n hC 1 dX6_goRedeem_13 rfl rfl ?_
  refine g_iconst (v := nI 0) hC dX6_goRedeem_14 rfl ?_
  refine g_dup2 hC dX6_goRedeem_15 rfl rfl ?_
  refine g_iald hC 4 rfl 0 rfl (by omega) (by decide) dX6_goRedeem_16 ?_
  refine g_top (y := (upd c (5 + k) (nI 0)) 0) (mp_0 _) ?_
  refine g_top (y := c 0) (upd_ne _ _ (by omega)) ?_
  refine g_iload_n hC 3 dX6_goRedeem_17 rfl rfl ?_
  refine g_iadd hC dX6_goRedeem_18 ?_
  refine g_iast hC 4 rfl 0 rfl (by omega) (by decide) [(mo, o6 rm (nI tl) pl (nI np) (nI nq) (nI nd) rt rp rq rd (nI cnt) (nI na) sd rw rx tm tf sm sf), (rm 1, .inl (cI, 5, .inl (fun k_ => nI (P 0 k_)))), (rm 2, .inl (cI, 5, .inl (fun k_ => nI (P 1 k_)))), (rm 3, .inl (cI, 5, .inl (fun k_ => nI (P 2 k_)))), (pa, .inl (cI, 20, .inl (upd (mp (upd c (5 + k) (nI 0))) 0 ((c 0) + (owed P c k)))))] rfl dX6_goRedeem_19 ?_
  refine g_ws (ws2 := [(mo, o6 rm (nI tl) pl (nI np) (nI nq) (nI nd) rt rp rq rd (nI cnt) (nI na) sd rw rx tm tf sm sf), (rm 1, .inl (cI, 5, .inl (fun k_ => nI (P 0 k_)))), (rm 2, .inl (cI, 5, .inl (fun k_ => nI (P 1 k_)))), (rm 3, .inl (cI, 5, .inl (fun k_ => nI (P 2 k_)))), (pa, .inl (cI, 20, .inl (mp (upd (upd c (5 + k) (nI 0)) 0 ((c 0) + (owed P c k))))))]) (congrArg (fun zz : Nat → Int32 => ([(mo, o6 rm (nI tl) pl (nI np) (nI nq) (nI nd) rt rp rq rd (nI cnt) (nI na) sd rw rx tm tf sm sf), (rm 1, .inl (cI, 5, .inl (fun k_ => nI (P 0 k_)))), (rm 2, .inl (cI, 5, .inl (fun k_ => nI (P 1 k_)))), (rm 3, .inl (cI, 5, .inl (fun k_ => nI (P 2 k_)))), (pa, .inl (cI, 20, .inl zz))] : va_W)) (mpu_0 _ _)) ?_
  refine g_aload_n hC 1 dX6_goRedeem_20 rfl rfl ?_
  refine g_iconst (v := nI 1) hC dX6_goRedeem_21 rfl ?_
  refine g_aload_n hC 0 dX6_goRedeem_22 rfl rfl ?_
  refine g_get (C := RX6) (T := TX6) (N := 38) (ci := 6) (v := .ref (rm 1)) hC hcw6 0 rfl rfl 6 (by decide) w1 (fun _ h => h) rfl dX6_goRedeem_23 ?_
  refine g_iload_n hC 2 dX6_goRedeem_26 rfl rfl ?_
  refine g_iald hC 1 rfl k rfl (by omega) (by decide) dX6_goRedeem_27 ?_
  refine g_iadd_n (a := 1) (b := (P 0 k)) hC dX6_goRedeem_28 ?_
  refine g_dup2 hC dX6_goRedeem_29 rfl rfl ?_
  refine g_iald hC 4 rfl (1 + (P 0 k)) rfl (by omega) (by decide) dX6_goRedeem_30 ?_
  refine g_top (y := (upd (upd c (5 + k) (nI 0)) 0 ((c 0) + (owed P c k))) (2 + (P 0 k))) (mp_1 _ (by omega)) ?_
  refine g_top (y := c (2 + P 0 k)) (by rw [upd_ne _ _ (by omega), upd_ne _ _ (by omega)]) ?_
  refine g_iload_n hC 3 dX6_goRedeem_31 rfl rfl ?_
  refine g_isub hC dX6_goRedeem_32 ?_
  refine g_iast hC 4 rfl (1 + (P 0 k)) rfl (by omega) (by decide) [(mo, o6 rm (nI tl) pl (nI np) (nI nq) (nI nd) rt rp rq rd (nI cnt) (nI na) sd rw rx tm tf sm sf), (rm 1, .inl (cI, 5, .inl (fun k_ => nI (P 0 k_)))), (rm 2, .inl (cI, 5, .inl (fun k_ => nI (P 1 k_)))), (rm 3, .inl (cI, 5, .inl (fun k_ => nI (P 2 k_)))), (pa, .inl (cI, 20, .inl (upd (mp (upd (upd c (5 + k) (nI 0)) 0 ((c 0) + (owed P c k)))) (1 + (P 0 k)) ((c (2 + P 0 k)) - (owed P c k)))))] rfl dX6_goRedeem_33 ?_
  refine g_ws (ws2 := [(mo, o6 rm (nI tl) pl (nI np) (nI nq) (nI nd) rt rp rq rd (nI cnt) (nI na) sd rw rx tm tf sm sf), (rm 1, .inl (cI, 5, .inl (fun k_ => nI (P 0 k_)))), (rm 2, .inl (cI, 5, .inl (fun k_ => nI (P 1 k_)))), (rm 3, .inl (cI, 5, .inl (fun k_ => nI (P 2 k_)))), (pa, .inl (cI, 20, .inl (mp (upd (upd (upd c (5 + k) (nI 0)) 0 ((c 0) + (owed P c k))) (2 + (P 0 k)) ((c (2 + P 0 k)) - (owed P c k))))))]) (congrArg (fun zz : Nat → Int32 => ([(mo, o6 rm (nI tl) pl (nI np) (nI nq) (nI nd) rt rp rq rd (nI cnt) (nI na) sd rw rx tm tf sm sf), (rm 1, .inl (cI, 5, .inl (fun k_ => nI (P 0 k_)))), (rm 2, .inl (cI, 5, .inl (fun k_ => nI (P 1 k_)))), (rm 3, .inl (cI, 5, .inl (fun k_ => nI (P 2 k_)))), (pa, .inl (cI, 20, .inl zz))] : va_W)) (mpu_1 _ _ (by omega))) ?_
  have ecell : (mp (upd (upd (upd c (5 + k) (nI 0)) 0 ((c 0) + (owed P c k))) (2 + (P 0 k)) ((c (2 + P 0 k)) - (owed P c k)))) = (mp (redeemF P c k)) := by rw [re_ord c (by omega) (by omega), Int32.sub_eq_add_neg]; rfl
  refine g_ws (ws2 := [(mo, o6 rm (nI tl) pl (nI np) (nI nq) (nI nd) rt rp rq rd (nI cnt) (nI na) sd rw rx tm tf sm sf), (rm 1, .inl (cI, 5, .inl (fun k_ => nI (P 0 k_)))), (rm 2, .inl (cI, 5, .inl (fun k_ => nI (P 1 k_)))), (rm 3, .inl (cI, 5, .inl (fun k_ => nI (P 2 k_)))), (pa, .inl (cI, 20, .inl (mp (redeemF P c k))))]) (congrArg (fun zz : Nat → Int32 => ([(mo, o6 rm (nI tl) pl (nI np) (nI nq) (nI nd) rt rp rq rd (nI cnt) (nI na) sd rw rx tm tf sm sf), (rm 1, .inl (cI, 5, .inl (fun k_ => nI (P 0 k_)))), (rm 2, .inl (cI, 5, .inl (fun k_ => nI (P 1 k_)))), (rm 3, .inl (cI, 5, .inl (fun k_ => nI (P 2 k_)))), (pa, .inl (cI, 20, .inl zz))] : va_W)) ecell) ?_
  subst hQ
  refine g_vret hC () hr ?_ rfl dX6_goRedeem_34
  trivial

abbrev rm_X6_about : Room := { frames := 1, cells := 0, slots := 0, locals := 24 }
set_option maxRecDepth 100000 in
set_option maxHeartbeats 4000000 in
theorem c_X6_about (l : Launch) (D : va_G) (cI cZ : ClassId) (mo : Nat) (rm : Nat → Nat) (tl : Nat) (pl : Int32) (np : Nat) (nq : Nat) (nd : Nat) (rt : Int32) (rp : Int32) (rq : Int32) (rd : Int32) (cnt : Nat) (na : Nat) (sd : Int64) (rw : Int32) (rx : Int32) (tm : Int32) (tf : Int32) (sm : Int32) (sf : Int32) (c : Nat → Int32) (a : Int32) (h1 : np ≤ 3) (h2 : nq ≤ 5) (h3 : nd ≤ 5) : CtI l yX6_about wsX6_about rm_X6_about D cI cZ [.ref mo, .int a] [(mo, o6 rm (nI tl) pl (nI np) (nI nq) (nI nd) rt rp rq rd (nI cnt) (nI na) sd rw rx tm tf sm sf), (rm 10, .inl (cI, 20, .inl (mp c)))] (fun r (_ : Unit) => r = aboutR np nq nd c cnt na tl a) (fun (_ : Unit) => [(mo, o6 rm (nI tl) pl (nI np) (nI nq) (nI nd) rt rp rq rd (nI cnt) (nI na) sd rw rx tm tf sm sf), (rm 10, .inl (cI, 20, .inl (mp c)))]) 0 0 := by
  refine g_startI (ret := (some .int)) (own := RX6) (lv0 := [(0, .ref mo), (1, .int a)]) (by decide) rfl rfl (Nat.le_of_ble_eq_true rfl) rfl ?_
  intro p e s m args below meth cd A Q hin hr hQ hC
  have hcw6 : ∀ w ∈ wsX60, w ∈ wsX6_about := fun _ h => List.mem_cons_of_mem _ (List.mem_append_right _ h)
  have w1 := hC.1.2.2.2.2 (.fieldLink "PluckBrokerModel" 68 "PluckBrokerModel" "thrown" "I") (List.mem_of_getElem? (i := 1) rfl)
  have w2 := hC.1.2.2.2.2 (.fieldLink "PluckBrokerModel" 72 "PluckBrokerModel" "persons" "I") (List.mem_of_getElem? (i := 2) rfl)
  have w3 := hC.1.2.2.2.2 (.fieldLink "PluckBrokerModel" 79 "PluckBrokerModel" "qualities" "I") (List.mem_of_getElem? (i := 3) rfl)
  have w4 := hC.1.2.2.2.2 (.fieldLink "PluckBrokerModel" 82 "PluckBrokerModel" "deeds" "I") (List.mem_of_getElem? (i := 4) rfl)
  have w5 := hC.1.2.2.2.2 (.fieldLink "PluckBrokerModel" 40 "PluckBrokerModel" "page" "[I") (List.mem_of_getElem? (i := 5) rfl)
  have w6 := hC.1.2.2.2.2 (.fieldLink "PluckBrokerModel" 126 "PluckBrokerModel" "acts" "I") (List.mem_of_getElem? (i := 6) rfl)
  have w7 := hC.1.2.2.2.2 (.fieldLink "PluckBrokerModel" 144 "PluckBrokerModel" "asked" "I") (List.mem_of_getElem? (i := 7) rfl)
  have w8 := hC.1.2.2.2.2 (.fieldLink "PluckBrokerModel" 87 "PluckBrokerModel" "textSize" "I") (List.mem_of_getElem? (i := 8) rfl)
  refine g_aload_n hC 0 dX6_about_0 rfl rfl ?_
  refine g_iconst (v := nI 0) hC dX6_about_1 rfl ?_
  refine g_put (C := RX6) (T := TX6) (N := 38) (ci := 6) (v := .int (nI 0)) hC hcw6 tyX6 tyX6_ok nmX6 0 rfl rfl 0 (by decide) w1 (fun _ h => h) rfl (tyX6_ok 0 (by decide)) rfl rfl (Nat.le_of_ble_eq_true rfl) [(mo, o6 rm (nI tl) pl (nI np) (nI nq) (nI nd) rt rp rq rd (nI cnt) (nI na) sd rw rx tm tf sm sf), (rm 10, .inl (cI, 20, .inl (mp c)))] rfl dX6_about_2 ?_
  refine g_iload_n hC 1 dX6_about_5 rfl rfl ?_
  by_cases k6_0 : a = nI 0
  · subst k6_0
    refine g_tableIn (off := 66) hC 72 dX6_about_6 (by decide +kernel) (by decide +kernel) (by decide +kernel) (by decide) ?_
    refine g_aload_n hC 0 dX6_about_72 rfl rfl ?_
    refine g_get (C := RX6) (T := TX6) (N := 38) (ci := 6) (v := .int (nI np)) hC hcw6 0 rfl rfl 4 (by decide) w2 (fun _ h => h) rfl dX6_about_73 ?_
    subst hQ
    refine g_iret (v := nI np) hC () hr ?_ rfl dX6_about_76
    rfl
  by_cases k6_1 : a = nI 1
  · subst k6_1
    refine g_tableIn (off := 71) hC 77 dX6_about_6 (by decide +kernel) (by decide +kernel) (by decide +kernel) (by decide) ?_
    refine g_aload_n hC 0 dX6_about_77 rfl rfl ?_
    refine g_get (C := RX6) (T := TX6) (N := 38) (ci := 6) (v := .int (nI nq)) hC hcw6 0 rfl rfl 5 (by decide) w3 (fun _ h => h) rfl dX6_about_78 ?_
    subst hQ
    refine g_iret (v := nI nq) hC () hr ?_ rfl dX6_about_81
    rfl
  by_cases k6_2 : a = nI 2
  · subst k6_2
    refine g_tableIn (off := 76) hC 82 dX6_about_6 (by decide +kernel) (by decide +kernel) (by decide +kernel) (by decide) ?_
    refine g_aload_n hC 0 dX6_about_82 rfl rfl ?_
    refine g_get (C := RX6) (T := TX6) (N := 38) (ci := 6) (v := .int (nI nd)) hC hcw6 0 rfl rfl 9 (by decide) w4 (fun _ h => h) rfl dX6_about_83 ?_
    subst hQ
    refine g_iret (v := nI nd) hC () hr ?_ rfl dX6_about_86
    rfl
  by_cases k6_3 : a = nI 3
  · subst k6_3
    refine g_tableIn (off := 81) hC 87 dX6_about_6 (by decide +kernel) (by decide +kernel) (by decide +kernel) (by decide) ?_
    refine g_aload_n hC 0 dX6_about_87 rfl rfl ?_
    refine g_get (C := RX6) (T := TX6) (N := 38) (ci := 6) (v := .ref (rm 10)) hC hcw6 0 rfl rfl 20 (by decide) w5 (fun _ h => h) rfl dX6_about_88 ?_
    refine g_bipush (v := nI 19) hC dX6_about_91 (by decide +kernel) ?_
    refine g_iald hC 1 rfl 19 rfl (by omega) (by decide) dX6_about_93 ?_
    refine g_top (y := c 1) (mp_19 _) ?_
    subst hQ
    refine g_iret (v := c 1) hC () hr ?_ rfl dX6_about_94
    rfl
  by_cases k6_4 : a = nI 4
  · subst k6_4
    refine g_tableIn (off := 89) hC 95 dX6_about_6 (by decide +kernel) (by decide +kernel) (by decide +kernel) (by decide) ?_
    refine g_aload_n hC 0 dX6_about_95 rfl rfl ?_
    refine g_get (C := RX6) (T := TX6) (N := 38) (ci := 6) (v := .ref (rm 10)) hC hcw6 0 rfl rfl 20 (by decide) w5 (fun _ h => h) rfl dX6_about_96 ?_
    refine g_iconst (v := nI 0) hC dX6_about_99 rfl ?_
    refine g_iald hC 1 rfl 0 rfl (by omega) (by decide) dX6_about_100 ?_
    refine g_top (y := c 0) (mp_0 _) ?_
    subst hQ
    refine g_iret (v := c 0) hC () hr ?_ rfl dX6_about_101
    rfl
  by_cases k6_5 : a = nI 5
  · subst k6_5
    refine g_tableIn (off := 96) hC 102 dX6_about_6 (by decide +kernel) (by decide +kernel) (by decide +kernel) (by decide) ?_
    refine g_aload_n hC 0 dX6_about_102 rfl rfl ?_
    refine g_aload_n hC 0 dX6_about_103 rfl rfl ?_
    refine g_get (C := RX6) (T := TX6) (N := 38) (ci := 6) (v := .ref (rm 10)) hC hcw6 0 rfl rfl 20 (by decide) w5 (fun _ h => h) rfl dX6_about_104 ?_
    refine g_iload_n hC 1 dX6_about_107 rfl rfl ?_
    refine g_iconst (v := nI 5) hC dX6_about_108 rfl ?_
    refine g_isub_n (a := 5) (b := 5) hC (by omega) dX6_about_109 ?_
    refine g_callVip (As := [.ref (rm 10), .int (nI (5 - 5))]) (rest := []) hC (nI (thatAre nq c (nI (5 - 5)))) (c_X6_thatAre l D cI cZ mo rm tl pl np nq nd rt rp rq rd cnt na sd rw rx tm tf sm sf (rm 10) c (nI (5 - 5)) (by first | assumption | omega)) (cwV 2 hC.1.2.2.2.2 gX6_about_X6_thatAre rfl rfl rfl dV_X6_thatAre ⟨Nat.le_of_ble_eq_true rfl, Nat.le_of_ble_eq_true rfl⟩) rfl rfl rfl rfl (Nat.le_of_ble_eq_true rfl) dX6_about_110 ⟨Nat.le_of_ble_eq_true rfl, Nat.le_of_ble_eq_true rfl⟩ [0, 1] rfl rfl ?_
    subst hQ
    refine g_iret (v := nI (thatAre nq c (nI (5 - 5)))) hC () hr ?_ rfl dX6_about_113
    rfl
  by_cases k6_6 : a = nI 6
  · subst k6_6
    refine g_tableIn (off := 96) hC 102 dX6_about_6 (by decide +kernel) (by decide +kernel) (by decide +kernel) (by decide) ?_
    refine g_aload_n hC 0 dX6_about_102 rfl rfl ?_
    refine g_aload_n hC 0 dX6_about_103 rfl rfl ?_
    refine g_get (C := RX6) (T := TX6) (N := 38) (ci := 6) (v := .ref (rm 10)) hC hcw6 0 rfl rfl 20 (by decide) w5 (fun _ h => h) rfl dX6_about_104 ?_
    refine g_iload_n hC 1 dX6_about_107 rfl rfl ?_
    refine g_iconst (v := nI 5) hC dX6_about_108 rfl ?_
    refine g_isub_n (a := 6) (b := 5) hC (by omega) dX6_about_109 ?_
    refine g_callVip (As := [.ref (rm 10), .int (nI (6 - 5))]) (rest := []) hC (nI (thatAre nq c (nI (6 - 5)))) (c_X6_thatAre l D cI cZ mo rm tl pl np nq nd rt rp rq rd cnt na sd rw rx tm tf sm sf (rm 10) c (nI (6 - 5)) (by first | assumption | omega)) (cwV 2 hC.1.2.2.2.2 gX6_about_X6_thatAre rfl rfl rfl dV_X6_thatAre ⟨Nat.le_of_ble_eq_true rfl, Nat.le_of_ble_eq_true rfl⟩) rfl rfl rfl rfl (Nat.le_of_ble_eq_true rfl) dX6_about_110 ⟨Nat.le_of_ble_eq_true rfl, Nat.le_of_ble_eq_true rfl⟩ [0, 1] rfl rfl ?_
    subst hQ
    refine g_iret (v := nI (thatAre nq c (nI (6 - 5)))) hC () hr ?_ rfl dX6_about_113
    rfl
  by_cases k6_7 : a = nI 7
  · subst k6_7
    refine g_tableIn (off := 96) hC 102 dX6_about_6 (by decide +kernel) (by decide +kernel) (by decide +kernel) (by decide) ?_
    refine g_aload_n hC 0 dX6_about_102 rfl rfl ?_
    refine g_aload_n hC 0 dX6_about_103 rfl rfl ?_
    refine g_get (C := RX6) (T := TX6) (N := 38) (ci := 6) (v := .ref (rm 10)) hC hcw6 0 rfl rfl 20 (by decide) w5 (fun _ h => h) rfl dX6_about_104 ?_
    refine g_iload_n hC 1 dX6_about_107 rfl rfl ?_
    refine g_iconst (v := nI 5) hC dX6_about_108 rfl ?_
    refine g_isub_n (a := 7) (b := 5) hC (by omega) dX6_about_109 ?_
    refine g_callVip (As := [.ref (rm 10), .int (nI (7 - 5))]) (rest := []) hC (nI (thatAre nq c (nI (7 - 5)))) (c_X6_thatAre l D cI cZ mo rm tl pl np nq nd rt rp rq rd cnt na sd rw rx tm tf sm sf (rm 10) c (nI (7 - 5)) (by first | assumption | omega)) (cwV 2 hC.1.2.2.2.2 gX6_about_X6_thatAre rfl rfl rfl dV_X6_thatAre ⟨Nat.le_of_ble_eq_true rfl, Nat.le_of_ble_eq_true rfl⟩) rfl rfl rfl rfl (Nat.le_of_ble_eq_true rfl) dX6_about_110 ⟨Nat.le_of_ble_eq_true rfl, Nat.le_of_ble_eq_true rfl⟩ [0, 1] rfl rfl ?_
    subst hQ
    refine g_iret (v := nI (thatAre nq c (nI (7 - 5)))) hC () hr ?_ rfl dX6_about_113
    rfl
  by_cases k6_8 : a = nI 8
  · subst k6_8
    refine g_tableIn (off := 108) hC 114 dX6_about_6 (by decide +kernel) (by decide +kernel) (by decide +kernel) (by decide) ?_
    refine g_aload_n hC 0 dX6_about_114 rfl rfl ?_
    refine g_aload_n hC 0 dX6_about_115 rfl rfl ?_
    refine g_get (C := RX6) (T := TX6) (N := 38) (ci := 6) (v := .ref (rm 10)) hC hcw6 0 rfl rfl 20 (by decide) w5 (fun _ h => h) rfl dX6_about_116 ?_
    refine g_iload_n hC 1 dX6_about_119 rfl rfl ?_
    refine g_bipush (v := nI 7) hC dX6_about_120 (by decide +kernel) ?_
    refine g_isub_n (a := 8) (b := 7) hC (by omega) dX6_about_122 ?_
    refine g_callVip (As := [.ref (rm 10), .int (nI (8 - 7))]) (rest := []) hC (nI (deedsThat nd c (nI (8 - 7)))) (c_X6_deedsThat l D cI cZ mo rm tl pl np nq nd rt rp rq rd cnt na sd rw rx tm tf sm sf (rm 10) c (nI (8 - 7)) (by first | assumption | omega)) (cwV 2 hC.1.2.2.2.2 gX6_about_X6_deedsThat rfl rfl rfl dV_X6_deedsThat ⟨Nat.le_of_ble_eq_true rfl, Nat.le_of_ble_eq_true rfl⟩) rfl rfl rfl rfl (Nat.le_of_ble_eq_true rfl) dX6_about_123 ⟨Nat.le_of_ble_eq_true rfl, Nat.le_of_ble_eq_true rfl⟩ [0, 1] rfl rfl ?_
    subst hQ
    refine g_iret (v := nI (deedsThat nd c (nI (8 - 7)))) hC () hr ?_ rfl dX6_about_126
    rfl
  by_cases k6_9 : a = nI 9
  · subst k6_9
    refine g_tableIn (off := 108) hC 114 dX6_about_6 (by decide +kernel) (by decide +kernel) (by decide +kernel) (by decide) ?_
    refine g_aload_n hC 0 dX6_about_114 rfl rfl ?_
    refine g_aload_n hC 0 dX6_about_115 rfl rfl ?_
    refine g_get (C := RX6) (T := TX6) (N := 38) (ci := 6) (v := .ref (rm 10)) hC hcw6 0 rfl rfl 20 (by decide) w5 (fun _ h => h) rfl dX6_about_116 ?_
    refine g_iload_n hC 1 dX6_about_119 rfl rfl ?_
    refine g_bipush (v := nI 7) hC dX6_about_120 (by decide +kernel) ?_
    refine g_isub_n (a := 9) (b := 7) hC (by omega) dX6_about_122 ?_
    refine g_callVip (As := [.ref (rm 10), .int (nI (9 - 7))]) (rest := []) hC (nI (deedsThat nd c (nI (9 - 7)))) (c_X6_deedsThat l D cI cZ mo rm tl pl np nq nd rt rp rq rd cnt na sd rw rx tm tf sm sf (rm 10) c (nI (9 - 7)) (by first | assumption | omega)) (cwV 2 hC.1.2.2.2.2 gX6_about_X6_deedsThat rfl rfl rfl dV_X6_deedsThat ⟨Nat.le_of_ble_eq_true rfl, Nat.le_of_ble_eq_true rfl⟩) rfl rfl rfl rfl (Nat.le_of_ble_eq_true rfl) dX6_about_123 ⟨Nat.le_of_ble_eq_true rfl, Nat.le_of_ble_eq_true rfl⟩ [0, 1] rfl rfl ?_
    subst hQ
    refine g_iret (v := nI (deedsThat nd c (nI (9 - 7)))) hC () hr ?_ rfl dX6_about_126
    rfl
  by_cases k6_10 : a = nI 10
  · subst k6_10
    refine g_tableIn (off := 121) hC 127 dX6_about_6 (by decide +kernel) (by decide +kernel) (by decide +kernel) (by decide) ?_
    refine g_aload_n hC 0 dX6_about_127 rfl rfl ?_
    refine g_get (C := RX6) (T := TX6) (N := 38) (ci := 6) (v := .int (nI cnt)) hC hcw6 0 rfl rfl 23 (by decide) w6 (fun _ h => h) rfl dX6_about_128 ?_
    subst hQ
    refine g_iret (v := nI cnt) hC () hr ?_ rfl dX6_about_131
    rfl
  by_cases k6_11 : a = nI 11
  · subst k6_11
    refine g_tableIn (off := 126) hC 132 dX6_about_6 (by decide +kernel) (by decide +kernel) (by decide +kernel) (by decide) ?_
    refine g_aload_n hC 0 dX6_about_132 rfl rfl ?_
    refine g_get (C := RX6) (T := TX6) (N := 38) (ci := 6) (v := .int (nI na)) hC hcw6 0 rfl rfl 26 (by decide) w7 (fun _ h => h) rfl dX6_about_133 ?_
    subst hQ
    refine g_iret (v := nI na) hC () hr ?_ rfl dX6_about_136
    rfl
  by_cases k6_12 : a = nI 12
  · subst k6_12
    refine g_tableIn (off := 131) hC 137 dX6_about_6 (by decide +kernel) (by decide +kernel) (by decide +kernel) (by decide) ?_
    refine g_aload_n hC 0 dX6_about_137 rfl rfl ?_
    refine g_get (C := RX6) (T := TX6) (N := 38) (ci := 6) (v := .int (nI tl)) hC hcw6 0 rfl rfl 2 (by decide) w8 (fun _ h => h) rfl dX6_about_138 ?_
    subst hQ
    refine g_iret (v := nI tl) hC () hr ?_ rfl dX6_about_141
    rfl
  have z6_0 : a.toInt ≠ 0 := fun q => k6_0 (Int32.toInt_inj.mp (q.trans (by decide +kernel)))
  have z6_1 : a.toInt ≠ 1 := fun q => k6_1 (Int32.toInt_inj.mp (q.trans (by decide +kernel)))
  have z6_2 : a.toInt ≠ 2 := fun q => k6_2 (Int32.toInt_inj.mp (q.trans (by decide +kernel)))
  have z6_3 : a.toInt ≠ 3 := fun q => k6_3 (Int32.toInt_inj.mp (q.trans (by decide +kernel)))
  have z6_4 : a.toInt ≠ 4 := fun q => k6_4 (Int32.toInt_inj.mp (q.trans (by decide +kernel)))
  have z6_5 : a.toInt ≠ 5 := fun q => k6_5 (Int32.toInt_inj.mp (q.trans (by decide +kernel)))
  have z6_6 : a.toInt ≠ 6 := fun q => k6_6 (Int32.toInt_inj.mp (q.trans (by decide +kernel)))
  have z6_7 : a.toInt ≠ 7 := fun q => k6_7 (Int32.toInt_inj.mp (q.trans (by decide +kernel)))
  have z6_8 : a.toInt ≠ 8 := fun q => k6_8 (Int32.toInt_inj.mp (q.trans (by decide +kernel)))
  have z6_9 : a.toInt ≠ 9 := fun q => k6_9 (Int32.toInt_inj.mp (q.trans (by decide +kernel)))
  have z6_10 : a.toInt ≠ 10 := fun q => k6_10 (Int32.toInt_inj.mp (q.trans (by decide +kernel)))
  have z6_11 : a.toInt ≠ 11 := fun q => k6_11 (Int32.toInt_inj.mp (q.trans (by decide +kernel)))
  have z6_12 : a.toInt ≠ 12 := fun q => k6_12 (Int32.toInt_inj.mp (q.trans (by decide +kernel)))
  refine g_tableOut hC 142 dX6_about_6 (by omega) (by decide) ?_
  refine g_bipush (v := (-2)) hC dX6_about_142 (by decide +kernel) ?_
  subst hQ
  refine g_iret (v := -2) hC () hr ?_ rfl dX6_about_144
  rw [aboutR, if_neg k6_0, if_neg k6_1, if_neg k6_2, if_neg k6_3, if_neg k6_4, if_neg k6_5, if_neg k6_6, if_neg k6_7, if_neg k6_8, if_neg k6_9, if_neg k6_10, if_neg k6_11, if_neg k6_12]

abbrev rm_X6_person : Room := { frames := 2, cells := 0, slots := 0, locals := 46 }
set_option maxRecDepth 100000 in
set_option maxHeartbeats 4000000 in
theorem c_X6_person (l : Launch) (D : va_G) (cI cZ : ClassId) (mo : Nat) (rm : Nat → Nat) (tl : Nat) (pl : Int32) (np : Nat) (nq : Nat) (nd : Nat) (rt : Int32) (rp : Int32) (rq : Int32) (rd : Int32) (cnt : Nat) (na : Nat) (sd : Int64) (rw : Int32) (rx : Int32) (tm : Int32) (tf : Int32) (sm : Int32) (sf : Int32) (P : Nat → Nat → Nat) (c : Nat → Int32) (a : Int32) (w : Int32) (hW : WFP np nq nd P) : CtI l yX6_person wsX6_person rm_X6_person D cI cZ [.ref mo, .int a, .int w] [(mo, o6 rm (nI tl) pl (nI np) (nI nq) (nI nd) rt rp rq rd (nI cnt) (nI na) sd rw rx tm tf sm sf), (rm 1, .inl (cI, 5, .inl (fun k_ => nI (P 0 k_)))), (rm 4, .inl (cI, 5, .inl (fun k_ => nI (P 3 k_)))), (rm 10, .inl (cI, 20, .inl (mp c)))] (fun r (_ : Unit) => r = personR np nq nd P c a w) (fun (_ : Unit) => [(mo, o6 rm (nI tl) pl (nI np) (nI nq) (nI nd) rt rp rq rd (nI cnt) (nI na) sd rw rx tm tf sm sf), (rm 1, .inl (cI, 5, .inl (fun k_ => nI (P 0 k_)))), (rm 4, .inl (cI, 5, .inl (fun k_ => nI (P 3 k_)))), (rm 10, .inl (cI, 20, .inl (mp c)))]) 0 0 := by
  refine g_startI (ret := (some .int)) (own := RX6) (lv0 := [(0, .ref mo), (1, .int a), (2, .int w)]) (by decide) rfl rfl (Nat.le_of_ble_eq_true rfl) rfl ?_
  intro p e s m args below meth cd A Q hin hr hQ hC
  have hcw6 : ∀ w ∈ wsX60, w ∈ wsX6_person := fun _ h => List.mem_cons_of_mem _ (List.mem_append_right _ h)
  have w1 := hC.1.2.2.2.2 (.fieldLink "PluckBrokerModel" 68 "PluckBrokerModel" "thrown" "I") (List.mem_of_getElem? (i := 1) rfl)
  have w2 := hC.1.2.2.2.2 (.fieldLink "PluckBrokerModel" 40 "PluckBrokerModel" "page" "[I") (List.mem_of_getElem? (i := 2) rfl)
  obtain ⟨⟨hnp, hnq, hnd⟩, hq4, hd5⟩ := id hW
  refine g_aload_n hC 0 dX6_person_0 rfl rfl ?_
  refine g_iconst (v := nI 0) hC dX6_person_1 rfl ?_
  refine g_put (C := RX6) (T := TX6) (N := 38) (ci := 6) (v := .int (nI 0)) hC hcw6 tyX6 tyX6_ok nmX6 0 rfl rfl 0 (by decide) w1 (fun _ h => h) rfl (tyX6_ok 0 (by decide)) rfl rfl (Nat.le_of_ble_eq_true rfl) [(mo, o6 rm (nI tl) pl (nI np) (nI nq) (nI nd) rt rp rq rd (nI cnt) (nI na) sd rw rx tm tf sm sf), (rm 1, .inl (cI, 5, .inl (fun k_ => nI (P 0 k_)))), (rm 4, .inl (cI, 5, .inl (fun k_ => nI (P 3 k_)))), (rm 10, .inl (cI, 20, .inl (mp c)))] rfl dX6_person_2 ?_
  refine g_aload_n hC 0 dX6_person_5 rfl rfl ?_
  refine g_iload_n hC 1 dX6_person_6 rfl rfl ?_
  refine g_callVip (As := [.int a]) (rest := []) hC (bI (¬ inR a np)) (c_X6_noPerson l D cI cZ mo rm tl pl np nq nd rt rp rq rd cnt na sd rw rx tm tf sm sf a (by omega)) (cwV 1 hC.1.2.2.2.2 gX6_person_X6_noPerson rfl rfl rfl dV_X6_noPerson ⟨Nat.le_of_ble_eq_true rfl, Nat.le_of_ble_eq_true rfl⟩) rfl rfl rfl rfl (Nat.le_of_ble_eq_true rfl) dX6_person_7 ⟨Nat.le_of_ble_eq_true rfl, Nat.le_of_ble_eq_true rfl⟩ [0] rfl rfl ?_
  refine g_if_eq_b hC 15 dX6_person_10 (by decide) (fun h10t => ?_) (fun h10f => ?_)
  · obtain ⟨k, hk, rfl⟩ := inR_n (by omega) (Decidable.not_not.mp h10t)
    have hin2 := inR_k (n := np) (by omega) hk
    have hKk : K (nI k) = k := K_n (by omega)
    refine g_iload_n hC 2 dX6_person_15 rfl rfl ?_
    by_cases k16_0 : w = nI 0
    · subst k16_0
      refine g_tableIn (off := 28) hC 44 dX6_person_16 (by decide +kernel) (by decide +kernel) (by decide +kernel) (by decide) ?_
      refine g_aload_n hC 0 dX6_person_44 rfl rfl ?_
      refine g_get (C := RX6) (T := TX6) (N := 38) (ci := 6) (v := .ref (rm 10)) hC hcw6 0 rfl rfl 20 (by decide) w2 (fun _ h => h) rfl dX6_person_45 ?_
      refine g_iconst (v := nI 1) hC dX6_person_48 rfl ?_
      refine g_iload_n hC 1 dX6_person_49 rfl rfl ?_
      refine g_iadd_n (a := 1) (b := k) hC dX6_person_50 ?_
      refine g_iald hC 3 rfl (1 + k) rfl (by omega) (by decide) dX6_person_51 ?_
      refine g_top (y := c (2 + k)) (mp_1 _ (by omega)) ?_
      subst hQ
      refine g_iret (v := c (2 + k)) hC () hr ?_ rfl dX6_person_52
      rw [personR, if_pos hin2, if_pos rfl, hKk]
    by_cases k16_1 : w = nI 1
    · subst k16_1
      refine g_tableIn (off := 37) hC 53 dX6_person_16 (by decide +kernel) (by decide +kernel) (by decide +kernel) (by decide) ?_
      refine g_aload_n hC 0 dX6_person_53 rfl rfl ?_
      refine g_iload_n hC 1 dX6_person_54 rfl rfl ?_
      refine g_callVip (As := [.int (nI k)]) (rest := []) hC (nI (ownB nq P (nI k))) (c_X6_ownOf l D cI cZ mo rm tl pl np nq nd rt rp rq rd cnt na sd rw rx tm tf sm sf P (nI k) (by omega)) (cwV 1 hC.1.2.2.2.2 gX6_person_X6_ownOf rfl rfl rfl dV_X6_ownOf ⟨Nat.le_of_ble_eq_true rfl, Nat.le_of_ble_eq_true rfl⟩) rfl rfl rfl rfl (Nat.le_of_ble_eq_true rfl) dX6_person_55 ⟨Nat.le_of_ble_eq_true rfl, Nat.le_of_ble_eq_true rfl⟩ [0, 1] rfl rfl ?_
      subst hQ
      refine g_iret (v := nI (ownB nq P (nI k))) hC () hr ?_ rfl dX6_person_58
      rw [personR, if_pos hin2, if_neg (by decide), if_pos rfl]
    by_cases k16_2 : w = nI 2
    · subst k16_2
      refine g_tableIn (off := 43) hC 59 dX6_person_16 (by decide +kernel) (by decide +kernel) (by decide +kernel) (by decide) ?_
      refine g_aload_n hC 0 dX6_person_59 rfl rfl ?_
      refine g_iload_n hC 1 dX6_person_60 rfl rfl ?_
      refine g_callVip (As := [.int (nI k)]) (rest := []) hC (nI (deedsB nd P (nI k))) (c_X6_deedsOf l D cI cZ mo rm tl pl np nq nd rt rp rq rd cnt na sd rw rx tm tf sm sf P (nI k) (by first | assumption | omega)) (cwV 1 hC.1.2.2.2.2 gX6_person_X6_deedsOf rfl rfl rfl dV_X6_deedsOf ⟨Nat.le_of_ble_eq_true rfl, Nat.le_of_ble_eq_true rfl⟩) rfl rfl rfl rfl (Nat.le_of_ble_eq_true rfl) dX6_person_61 ⟨Nat.le_of_ble_eq_true rfl, Nat.le_of_ble_eq_true rfl⟩ [0, 1, 2] rfl rfl ?_
      subst hQ
      refine g_iret (v := nI (deedsB nd P (nI k))) hC () hr ?_ rfl dX6_person_64
      rw [personR, if_pos hin2, if_neg (by decide), if_neg (by decide), if_pos rfl]
    have z16_0 : w.toInt ≠ 0 := fun q => k16_0 (Int32.toInt_inj.mp (q.trans (by decide +kernel)))
    have z16_1 : w.toInt ≠ 1 := fun q => k16_1 (Int32.toInt_inj.mp (q.trans (by decide +kernel)))
    have z16_2 : w.toInt ≠ 2 := fun q => k16_2 (Int32.toInt_inj.mp (q.trans (by decide +kernel)))
    refine g_tableOut hC 65 dX6_person_16 (by omega) (by decide) ?_
    refine g_bipush (v := (-2)) hC dX6_person_65 (by decide +kernel) ?_
    subst hQ
    refine g_iret (v := -2) hC () hr ?_ rfl dX6_person_67
    rw [personR, if_pos hin2, if_neg k16_0, if_neg k16_1, if_neg k16_2]
  refine g_iconst (v := (-1)) hC dX6_person_13 rfl ?_
  subst hQ
  refine g_iret (v := -1) hC () hr ?_ rfl dX6_person_14
  rw [personR, if_neg h10f]

abbrev rm_X6_quality : Room := { frames := 2, cells := 0, slots := 0, locals := 46 }
set_option maxRecDepth 100000 in
set_option maxHeartbeats 4000000 in
theorem c_X6_quality (l : Launch) (D : va_G) (cI cZ : ClassId) (mo : Nat) (rm : Nat → Nat) (tl : Nat) (pl : Int32) (np : Nat) (nq : Nat) (nd : Nat) (rt : Int32) (rp : Int32) (rq : Int32) (rd : Int32) (cnt : Nat) (na : Nat) (sd : Int64) (rw : Int32) (rx : Int32) (tm : Int32) (tf : Int32) (sm : Int32) (sf : Int32) (P : Nat → Nat → Nat) (c : Nat → Int32) (a : Int32) (w : Int32) (hW : WFP np nq nd P) : CtI l yX6_quality wsX6_quality rm_X6_quality D cI cZ [.ref mo, .int a, .int w] [(mo, o6 rm (nI tl) pl (nI np) (nI nq) (nI nd) rt rp rq rd (nI cnt) (nI na) sd rw rx tm tf sm sf), (rm 1, .inl (cI, 5, .inl (fun k_ => nI (P 0 k_)))), (rm 2, .inl (cI, 5, .inl (fun k_ => nI (P 1 k_)))), (rm 3, .inl (cI, 5, .inl (fun k_ => nI (P 2 k_)))), (rm 10, .inl (cI, 20, .inl (mp c)))] (fun r (_ : Unit) => r = qualityR nq P c a w) (fun (_ : Unit) => [(mo, o6 rm (nI tl) pl (nI np) (nI nq) (nI nd) rt rp rq rd (nI cnt) (nI na) sd rw rx tm tf sm sf), (rm 1, .inl (cI, 5, .inl (fun k_ => nI (P 0 k_)))), (rm 2, .inl (cI, 5, .inl (fun k_ => nI (P 1 k_)))), (rm 3, .inl (cI, 5, .inl (fun k_ => nI (P 2 k_)))), (rm 10, .inl (cI, 20, .inl (mp c)))]) 0 0 := by
  refine g_startI (ret := (some .int)) (own := RX6) (lv0 := [(0, .ref mo), (1, .int a), (2, .int w)]) (by decide) rfl rfl (Nat.le_of_ble_eq_true rfl) rfl ?_
  intro p e s m args below meth cd A Q hin hr hQ hC
  have hcw6 : ∀ w ∈ wsX60, w ∈ wsX6_quality := fun _ h => List.mem_cons_of_mem _ (List.mem_append_right _ h)
  have w1 := hC.1.2.2.2.2 (.fieldLink "PluckBrokerModel" 68 "PluckBrokerModel" "thrown" "I") (List.mem_of_getElem? (i := 1) rfl)
  have w2 := hC.1.2.2.2.2 (.fieldLink "PluckBrokerModel" 13 "PluckBrokerModel" "owner" "[I") (List.mem_of_getElem? (i := 2) rfl)
  have w3 := hC.1.2.2.2.2 (.fieldLink "PluckBrokerModel" 16 "PluckBrokerModel" "worth" "[I") (List.mem_of_getElem? (i := 3) rfl)
  have w4 := hC.1.2.2.2.2 (.fieldLink "PluckBrokerModel" 19 "PluckBrokerModel" "kind" "[I") (List.mem_of_getElem? (i := 4) rfl)
  have w5 := hC.1.2.2.2.2 (.fieldLink "PluckBrokerModel" 40 "PluckBrokerModel" "page" "[I") (List.mem_of_getElem? (i := 5) rfl)
  obtain ⟨⟨hnp, hnq, hnd⟩, hq4, hd5⟩ := id hW
  refine g_aload_n hC 0 dX6_quality_0 rfl rfl ?_
  refine g_iconst (v := nI 0) hC dX6_quality_1 rfl ?_
  refine g_put (C := RX6) (T := TX6) (N := 38) (ci := 6) (v := .int (nI 0)) hC hcw6 tyX6 tyX6_ok nmX6 0 rfl rfl 0 (by decide) w1 (fun _ h => h) rfl (tyX6_ok 0 (by decide)) rfl rfl (Nat.le_of_ble_eq_true rfl) [(mo, o6 rm (nI tl) pl (nI np) (nI nq) (nI nd) rt rp rq rd (nI cnt) (nI na) sd rw rx tm tf sm sf), (rm 1, .inl (cI, 5, .inl (fun k_ => nI (P 0 k_)))), (rm 2, .inl (cI, 5, .inl (fun k_ => nI (P 1 k_)))), (rm 3, .inl (cI, 5, .inl (fun k_ => nI (P 2 k_)))), (rm 10, .inl (cI, 20, .inl (mp c)))] rfl dX6_quality_2 ?_
  refine g_aload_n hC 0 dX6_quality_5 rfl rfl ?_
  refine g_iload_n hC 1 dX6_quality_6 rfl rfl ?_
  refine g_callVip (As := [.int a]) (rest := []) hC (bI (¬ inR a nq)) (c_X6_noQuality l D cI cZ mo rm tl pl np nq nd rt rp rq rd cnt na sd rw rx tm tf sm sf a (by omega)) (cwV 1 hC.1.2.2.2.2 gX6_quality_X6_noQuality rfl rfl rfl dV_X6_noQuality ⟨Nat.le_of_ble_eq_true rfl, Nat.le_of_ble_eq_true rfl⟩) rfl rfl rfl rfl (Nat.le_of_ble_eq_true rfl) dX6_quality_7 ⟨Nat.le_of_ble_eq_true rfl, Nat.le_of_ble_eq_true rfl⟩ [0] rfl rfl ?_
  refine g_if_eq_b hC 15 dX6_quality_10 (by decide) (fun h10t => ?_) (fun h10f => ?_)
  · obtain ⟨k, hk, rfl⟩ := inR_n (by omega) (Decidable.not_not.mp h10t)
    have hin2 := inR_k (n := nq) (by omega) hk
    have hKk : K (nI k) = k := K_n (by omega)
    refine g_iload_n hC 2 dX6_quality_15 rfl rfl ?_
    by_cases k16_0 : w = nI 0
    · subst k16_0
      refine g_tableIn (off := 40) hC 56 dX6_quality_16 (by decide +kernel) (by decide +kernel) (by decide +kernel) (by decide) ?_
      refine g_aload_n hC 0 dX6_quality_56 rfl rfl ?_
      refine g_get (C := RX6) (T := TX6) (N := 38) (ci := 6) (v := .ref (rm 1)) hC hcw6 0 rfl rfl 6 (by decide) w2 (fun _ h => h) rfl dX6_quality_57 ?_
      refine g_iload_n hC 1 dX6_quality_60 rfl rfl ?_
      refine g_iald hC 1 rfl k rfl (by omega) (by decide) dX6_quality_61 ?_
      subst hQ
      refine g_iret (v := nI (P 0 k)) hC () hr ?_ rfl dX6_quality_62
      rw [qualityR, if_pos hin2, if_pos rfl, hKk]
    by_cases k16_1 : w = nI 1
    · subst k16_1
      refine g_tableIn (off := 47) hC 63 dX6_quality_16 (by decide +kernel) (by decide +kernel) (by decide +kernel) (by decide) ?_
      refine g_aload_n hC 0 dX6_quality_63 rfl rfl ?_
      refine g_get (C := RX6) (T := TX6) (N := 38) (ci := 6) (v := .ref (rm 2)) hC hcw6 0 rfl rfl 7 (by decide) w3 (fun _ h => h) rfl dX6_quality_64 ?_
      refine g_iload_n hC 1 dX6_quality_67 rfl rfl ?_
      refine g_iald hC 2 rfl k rfl (by omega) (by decide) dX6_quality_68 ?_
      subst hQ
      refine g_iret (v := nI (P 1 k)) hC () hr ?_ rfl dX6_quality_69
      rw [qualityR, if_pos hin2, if_neg (by decide), if_pos rfl, hKk]
    by_cases k16_2 : w = nI 2
    · subst k16_2
      refine g_tableIn (off := 54) hC 70 dX6_quality_16 (by decide +kernel) (by decide +kernel) (by decide +kernel) (by decide) ?_
      refine g_aload_n hC 0 dX6_quality_70 rfl rfl ?_
      refine g_get (C := RX6) (T := TX6) (N := 38) (ci := 6) (v := .ref (rm 3)) hC hcw6 0 rfl rfl 8 (by decide) w4 (fun _ h => h) rfl dX6_quality_71 ?_
      refine g_iload_n hC 1 dX6_quality_74 rfl rfl ?_
      refine g_iald hC 3 rfl k rfl (by omega) (by decide) dX6_quality_75 ?_
      subst hQ
      refine g_iret (v := nI (P 2 k)) hC () hr ?_ rfl dX6_quality_76
      rw [qualityR, if_pos hin2, if_neg (by decide), if_neg (by decide), if_pos rfl, hKk]
    by_cases k16_3 : w = nI 3
    · subst k16_3
      refine g_tableIn (off := 61) hC 77 dX6_quality_16 (by decide +kernel) (by decide +kernel) (by decide +kernel) (by decide) ?_
      refine g_aload_n hC 0 dX6_quality_77 rfl rfl ?_
      refine g_get (C := RX6) (T := TX6) (N := 38) (ci := 6) (v := .ref (rm 10)) hC hcw6 0 rfl rfl 20 (by decide) w5 (fun _ h => h) rfl dX6_quality_78 ?_
      refine g_iconst (v := nI 4) hC dX6_quality_81 rfl ?_
      refine g_iload_n hC 1 dX6_quality_82 rfl rfl ?_
      refine g_iadd_n (a := 4) (b := k) hC dX6_quality_83 ?_
      refine g_iald hC 4 rfl (4 + k) rfl (by omega) (by decide) dX6_quality_84 ?_
      refine g_top (y := c (5 + k)) (mp_4 _ (by omega)) ?_
      subst hQ
      refine g_iret (v := c (5 + k)) hC () hr ?_ rfl dX6_quality_85
      rw [qualityR, if_pos hin2, if_neg (by decide), if_neg (by decide), if_neg (by decide), if_pos rfl, hKk]
    by_cases k16_4 : w = nI 4
    · subst k16_4
      refine g_tableIn (off := 70) hC 86 dX6_quality_16 (by decide +kernel) (by decide +kernel) (by decide +kernel) (by decide) ?_
      refine g_aload_n hC 0 dX6_quality_86 rfl rfl ?_
      refine g_get (C := RX6) (T := TX6) (N := 38) (ci := 6) (v := .ref (rm 10)) hC hcw6 0 rfl rfl 20 (by decide) w5 (fun _ h => h) rfl dX6_quality_87 ?_
      refine g_iconst (v := nI 4) hC dX6_quality_90 rfl ?_
      refine g_iload_n hC 1 dX6_quality_91 rfl rfl ?_
      refine g_iadd_n (a := 4) (b := k) hC dX6_quality_92 ?_
      refine g_iald hC 4 rfl (4 + k) rfl (by omega) (by decide) dX6_quality_93 ?_
      refine g_top (y := c (5 + k)) (mp_4 _ (by omega)) ?_
      refine g_iconst (v := nI 1) hC dX6_quality_94 rfl ?_
      refine g_icmp_ne hC 110 dX6_quality_95 (by decide) (fun h95t => ?_) (fun h95f => ?_)
      · refine g_bipush (v := (-9)) hC dX6_quality_110 (by decide +kernel) ?_
        subst hQ
        refine g_iret (v := -9) hC () hr ?_ rfl dX6_quality_112
        rw [qualityR, if_pos hin2, if_neg (by decide), if_neg (by decide), if_neg (by decide), if_neg (by decide), if_pos rfl, hKk, if_neg h95t]
      refine g_aload_n hC 0 dX6_quality_98 rfl rfl ?_
      refine g_get (C := RX6) (T := TX6) (N := 38) (ci := 6) (v := .ref (rm 10)) hC hcw6 0 rfl rfl 20 (by decide) w5 (fun _ h => h) rfl dX6_quality_99 ?_
      refine g_bipush (v := nI 9) hC dX6_quality_102 (by decide +kernel) ?_
      refine g_iload_n hC 1 dX6_quality_104 rfl rfl ?_
      refine g_iadd_n (a := 9) (b := k) hC dX6_quality_105 ?_
      refine g_iald hC 4 rfl (9 + k) rfl (by omega) (by decide) dX6_quality_106 ?_
      refine g_top (y := c (10 + k)) (mp_9 _ (by omega)) ?_
      refine g_goto hC 112 dX6_quality_107 (by decide) ?_
      subst hQ
      refine g_iret (v := c (10 + k)) hC () hr ?_ rfl dX6_quality_112
      rw [qualityR, if_pos hin2, if_neg (by decide), if_neg (by decide), if_neg (by decide), if_neg (by decide), if_pos rfl, hKk, if_pos h95f]
    by_cases k16_5 : w = nI 5
    · subst k16_5
      refine g_tableIn (off := 97) hC 113 dX6_quality_16 (by decide +kernel) (by decide +kernel) (by decide +kernel) (by decide) ?_
      refine g_aload_n hC 0 dX6_quality_113 rfl rfl ?_
      refine g_aload_n hC 0 dX6_quality_114 rfl rfl ?_
      refine g_get (C := RX6) (T := TX6) (N := 38) (ci := 6) (v := .ref (rm 10)) hC hcw6 0 rfl rfl 20 (by decide) w5 (fun _ h => h) rfl dX6_quality_115 ?_
      refine g_iload_n hC 1 dX6_quality_118 rfl rfl ?_
      refine g_callVip (As := [.ref (rm 10), .int (nI k)]) (rest := []) hC (owed P c k) (c_X6_dueOf l D cI cZ mo rm tl pl np nq nd rt rp rq rd cnt na sd rw rx tm tf sm sf P (rm 10) c k (by omega)) (cwV 2 hC.1.2.2.2.2 gX6_quality_X6_dueOf rfl rfl rfl dV_X6_dueOf ⟨Nat.le_of_ble_eq_true rfl, Nat.le_of_ble_eq_true rfl⟩) rfl rfl rfl rfl (Nat.le_of_ble_eq_true rfl) dX6_quality_119 ⟨Nat.le_of_ble_eq_true rfl, Nat.le_of_ble_eq_true rfl⟩ [0, 2, 3, 4] rfl rfl ?_
      subst hQ
      refine g_iret (v := owed P c k) hC () hr ?_ rfl dX6_quality_122
      rw [qualityR, if_pos hin2, if_neg (by decide), if_neg (by decide), if_neg (by decide), if_neg (by decide), if_neg (by decide), if_pos rfl, hKk]
    have z16_0 : w.toInt ≠ 0 := fun q => k16_0 (Int32.toInt_inj.mp (q.trans (by decide +kernel)))
    have z16_1 : w.toInt ≠ 1 := fun q => k16_1 (Int32.toInt_inj.mp (q.trans (by decide +kernel)))
    have z16_2 : w.toInt ≠ 2 := fun q => k16_2 (Int32.toInt_inj.mp (q.trans (by decide +kernel)))
    have z16_3 : w.toInt ≠ 3 := fun q => k16_3 (Int32.toInt_inj.mp (q.trans (by decide +kernel)))
    have z16_4 : w.toInt ≠ 4 := fun q => k16_4 (Int32.toInt_inj.mp (q.trans (by decide +kernel)))
    have z16_5 : w.toInt ≠ 5 := fun q => k16_5 (Int32.toInt_inj.mp (q.trans (by decide +kernel)))
    refine g_tableOut hC 123 dX6_quality_16 (by omega) (by decide) ?_
    refine g_bipush (v := (-2)) hC dX6_quality_123 (by decide +kernel) ?_
    subst hQ
    refine g_iret (v := -2) hC () hr ?_ rfl dX6_quality_125
    rw [qualityR, if_pos hin2, if_neg k16_0, if_neg k16_1, if_neg k16_2, if_neg k16_3, if_neg k16_4, if_neg k16_5]
  refine g_iconst (v := (-1)) hC dX6_quality_13 rfl ?_
  subst hQ
  refine g_iret (v := -1) hC () hr ?_ rfl dX6_quality_14
  rw [qualityR, if_neg h10f]

abbrev rm_X6_deed : Room := { frames := 2, cells := 0, slots := 0, locals := 46 }
set_option maxRecDepth 100000 in
set_option maxHeartbeats 4000000 in
theorem c_X6_deed (l : Launch) (D : va_G) (cI cZ : ClassId) (mo : Nat) (rm : Nat → Nat) (tl : Nat) (pl : Int32) (np : Nat) (nq : Nat) (nd : Nat) (rt : Int32) (rp : Int32) (rq : Int32) (rd : Int32) (cnt : Nat) (na : Nat) (sd : Int64) (rw : Int32) (rx : Int32) (tm : Int32) (tf : Int32) (sm : Int32) (sf : Int32) (P : Nat → Nat → Nat) (c : Nat → Int32) (a : Int32) (w : Int32) (hW : WFP np nq nd P) : CtI l yX6_deed wsX6_deed rm_X6_deed D cI cZ [.ref mo, .int a, .int w] [(mo, o6 rm (nI tl) pl (nI np) (nI nq) (nI nd) rt rp rq rd (nI cnt) (nI na) sd rw rx tm tf sm sf), (rm 4, .inl (cI, 5, .inl (fun k_ => nI (P 3 k_)))), (rm 5, .inl (cI, 5, .inl (fun k_ => nI (P 4 k_)))), (rm 6, .inl (cI, 5, .inl (fun k_ => nI (P 5 k_)))), (rm 10, .inl (cI, 20, .inl (mp c)))] (fun r (_ : Unit) => r = deedR nd P c a w) (fun (_ : Unit) => [(mo, o6 rm (nI tl) pl (nI np) (nI nq) (nI nd) rt rp rq rd (nI cnt) (nI na) sd rw rx tm tf sm sf), (rm 4, .inl (cI, 5, .inl (fun k_ => nI (P 3 k_)))), (rm 5, .inl (cI, 5, .inl (fun k_ => nI (P 4 k_)))), (rm 6, .inl (cI, 5, .inl (fun k_ => nI (P 5 k_)))), (rm 10, .inl (cI, 20, .inl (mp c)))]) 0 0 := by
  refine g_startI (ret := (some .int)) (own := RX6) (lv0 := [(0, .ref mo), (1, .int a), (2, .int w)]) (by decide) rfl rfl (Nat.le_of_ble_eq_true rfl) rfl ?_
  intro p e s m args below meth cd A Q hin hr hQ hC
  have hcw6 : ∀ w ∈ wsX60, w ∈ wsX6_deed := fun _ h => List.mem_cons_of_mem _ (List.mem_append_right _ h)
  have w1 := hC.1.2.2.2.2 (.fieldLink "PluckBrokerModel" 68 "PluckBrokerModel" "thrown" "I") (List.mem_of_getElem? (i := 1) rfl)
  have w2 := hC.1.2.2.2.2 (.fieldLink "PluckBrokerModel" 22 "PluckBrokerModel" "wants" "[I") (List.mem_of_getElem? (i := 2) rfl)
  have w3 := hC.1.2.2.2.2 (.fieldLink "PluckBrokerModel" 25 "PluckBrokerModel" "when" "[I") (List.mem_of_getElem? (i := 3) rfl)
  have w4 := hC.1.2.2.2.2 (.fieldLink "PluckBrokerModel" 28 "PluckBrokerModel" "pays" "[I") (List.mem_of_getElem? (i := 4) rfl)
  have w5 := hC.1.2.2.2.2 (.fieldLink "PluckBrokerModel" 40 "PluckBrokerModel" "page" "[I") (List.mem_of_getElem? (i := 5) rfl)
  obtain ⟨⟨hnp, hnq, hnd⟩, hq4, hd5⟩ := id hW
  refine g_aload_n hC 0 dX6_deed_0 rfl rfl ?_
  refine g_iconst (v := nI 0) hC dX6_deed_1 rfl ?_
  refine g_put (C := RX6) (T := TX6) (N := 38) (ci := 6) (v := .int (nI 0)) hC hcw6 tyX6 tyX6_ok nmX6 0 rfl rfl 0 (by decide) w1 (fun _ h => h) rfl (tyX6_ok 0 (by decide)) rfl rfl (Nat.le_of_ble_eq_true rfl) [(mo, o6 rm (nI tl) pl (nI np) (nI nq) (nI nd) rt rp rq rd (nI cnt) (nI na) sd rw rx tm tf sm sf), (rm 4, .inl (cI, 5, .inl (fun k_ => nI (P 3 k_)))), (rm 5, .inl (cI, 5, .inl (fun k_ => nI (P 4 k_)))), (rm 6, .inl (cI, 5, .inl (fun k_ => nI (P 5 k_)))), (rm 10, .inl (cI, 20, .inl (mp c)))] rfl dX6_deed_2 ?_
  refine g_aload_n hC 0 dX6_deed_5 rfl rfl ?_
  refine g_iload_n hC 1 dX6_deed_6 rfl rfl ?_
  refine g_callVip (As := [.int a]) (rest := []) hC (bI (¬ inR a nd)) (c_X6_noDeed l D cI cZ mo rm tl pl np nq nd rt rp rq rd cnt na sd rw rx tm tf sm sf a (by omega)) (cwV 1 hC.1.2.2.2.2 gX6_deed_X6_noDeed rfl rfl rfl dV_X6_noDeed ⟨Nat.le_of_ble_eq_true rfl, Nat.le_of_ble_eq_true rfl⟩) rfl rfl rfl rfl (Nat.le_of_ble_eq_true rfl) dX6_deed_7 ⟨Nat.le_of_ble_eq_true rfl, Nat.le_of_ble_eq_true rfl⟩ [0] rfl rfl ?_
  refine g_if_eq_b hC 15 dX6_deed_10 (by decide) (fun h10t => ?_) (fun h10f => ?_)
  · obtain ⟨k, hk, rfl⟩ := inR_n (by omega) (Decidable.not_not.mp h10t)
    have hin2 := inR_k (n := nd) (by omega) hk
    have hKk : K (nI k) = k := K_n (by omega)
    refine g_iload_n hC 2 dX6_deed_15 rfl rfl ?_
    by_cases k16_0 : w = nI 0
    · subst k16_0
      refine g_tableIn (off := 32) hC 48 dX6_deed_16 (by decide +kernel) (by decide +kernel) (by decide +kernel) (by decide) ?_
      refine g_aload_n hC 0 dX6_deed_48 rfl rfl ?_
      refine g_get (C := RX6) (T := TX6) (N := 38) (ci := 6) (v := .ref (rm 4)) hC hcw6 0 rfl rfl 10 (by decide) w2 (fun _ h => h) rfl dX6_deed_49 ?_
      refine g_iload_n hC 1 dX6_deed_52 rfl rfl ?_
      refine g_iald hC 1 rfl k rfl (by omega) (by decide) dX6_deed_53 ?_
      subst hQ
      refine g_iret (v := nI (P 3 k)) hC () hr ?_ rfl dX6_deed_54
      rw [deedR, if_pos hin2, if_pos rfl, hKk]
    by_cases k16_1 : w = nI 1
    · subst k16_1
      refine g_tableIn (off := 39) hC 55 dX6_deed_16 (by decide +kernel) (by decide +kernel) (by decide +kernel) (by decide) ?_
      refine g_aload_n hC 0 dX6_deed_55 rfl rfl ?_
      refine g_get (C := RX6) (T := TX6) (N := 38) (ci := 6) (v := .ref (rm 5)) hC hcw6 0 rfl rfl 11 (by decide) w3 (fun _ h => h) rfl dX6_deed_56 ?_
      refine g_iload_n hC 1 dX6_deed_59 rfl rfl ?_
      refine g_iald hC 2 rfl k rfl (by omega) (by decide) dX6_deed_60 ?_
      subst hQ
      refine g_iret (v := nI (P 4 k)) hC () hr ?_ rfl dX6_deed_61
      rw [deedR, if_pos hin2, if_neg (by decide), if_pos rfl, hKk]
    by_cases k16_2 : w = nI 2
    · subst k16_2
      refine g_tableIn (off := 46) hC 62 dX6_deed_16 (by decide +kernel) (by decide +kernel) (by decide +kernel) (by decide) ?_
      refine g_aload_n hC 0 dX6_deed_62 rfl rfl ?_
      refine g_get (C := RX6) (T := TX6) (N := 38) (ci := 6) (v := .ref (rm 6)) hC hcw6 0 rfl rfl 12 (by decide) w4 (fun _ h => h) rfl dX6_deed_63 ?_
      refine g_iload_n hC 1 dX6_deed_66 rfl rfl ?_
      refine g_iald hC 3 rfl k rfl (by omega) (by decide) dX6_deed_67 ?_
      subst hQ
      refine g_iret (v := nI (P 5 k)) hC () hr ?_ rfl dX6_deed_68
      rw [deedR, if_pos hin2, if_neg (by decide), if_neg (by decide), if_pos rfl, hKk]
    by_cases k16_3 : w = nI 3
    · subst k16_3
      refine g_tableIn (off := 53) hC 69 dX6_deed_16 (by decide +kernel) (by decide +kernel) (by decide +kernel) (by decide) ?_
      refine g_aload_n hC 0 dX6_deed_69 rfl rfl ?_
      refine g_get (C := RX6) (T := TX6) (N := 38) (ci := 6) (v := .ref (rm 10)) hC hcw6 0 rfl rfl 20 (by decide) w5 (fun _ h => h) rfl dX6_deed_70 ?_
      refine g_bipush (v := nI 14) hC dX6_deed_73 (by decide +kernel) ?_
      refine g_iload_n hC 1 dX6_deed_75 rfl rfl ?_
      refine g_iadd_n (a := 14) (b := k) hC dX6_deed_76 ?_
      refine g_iald hC 4 rfl (14 + k) rfl (by omega) (by decide) dX6_deed_77 ?_
      refine g_top (y := c (15 + k)) (mp_14 _ (by omega)) ?_
      subst hQ
      refine g_iret (v := c (15 + k)) hC () hr ?_ rfl dX6_deed_78
      rw [deedR, if_pos hin2, if_neg (by decide), if_neg (by decide), if_neg (by decide), if_pos rfl, hKk]
    have z16_0 : w.toInt ≠ 0 := fun q => k16_0 (Int32.toInt_inj.mp (q.trans (by decide +kernel)))
    have z16_1 : w.toInt ≠ 1 := fun q => k16_1 (Int32.toInt_inj.mp (q.trans (by decide +kernel)))
    have z16_2 : w.toInt ≠ 2 := fun q => k16_2 (Int32.toInt_inj.mp (q.trans (by decide +kernel)))
    have z16_3 : w.toInt ≠ 3 := fun q => k16_3 (Int32.toInt_inj.mp (q.trans (by decide +kernel)))
    refine g_tableOut hC 79 dX6_deed_16 (by omega) (by decide) ?_
    refine g_bipush (v := (-2)) hC dX6_deed_79 (by decide +kernel) ?_
    subst hQ
    refine g_iret (v := -2) hC () hr ?_ rfl dX6_deed_81
    rw [deedR, if_pos hin2, if_neg k16_0, if_neg k16_1, if_neg k16_2, if_neg k16_3]
  refine g_iconst (v := (-1)) hC dX6_deed_13 rfl ?_
  subst hQ
  refine g_iret (v := -1) hC () hr ?_ rfl dX6_deed_14
  rw [deedR, if_neg h10f]

abbrev rm_X6_day : Room := { frames := 1, cells := 0, slots := 0, locals := 24 }
set_option maxRecDepth 100000 in
set_option maxHeartbeats 4000000 in
theorem c_X6_day (l : Launch) (D : va_G) (cI cZ : ClassId) (mo : Nat) (rm : Nat → Nat) (tl : Nat) (pl : Int32) (np : Nat) (nq : Nat) (nd : Nat) (rt : Int32) (rp : Int32) (rq : Int32) (rd : Int32) (cnt : Nat) (na : Nat) (sd : Int64) (rw : Int32) (rx : Int32) (tm : Int32) (tf : Int32) (sm : Int32) (sf : Int32) (P : Nat → Nat → Nat) (c : Nat → Int32) (bk : Nat → Int32) (t : Nat) (hW : WFP np nq nd P) (hFr : Fr P nd c t) (ht : t ≤ 200) (hcnt : cnt ≤ 14) : CtI l yX6_day wsX6_day rm_X6_day D cI cZ [.ref mo] [(mo, o6 rm (nI tl) pl (nI np) (nI nq) (nI nd) rt rp rq rd (nI cnt) (nI na) sd rw rx tm tf sm sf), (rm 1, .inl (cI, 5, .inl (fun k_ => nI (P 0 k_)))), (rm 3, .inl (cI, 5, .inl (fun k_ => nI (P 2 k_)))), (rm 4, .inl (cI, 5, .inl (fun k_ => nI (P 3 k_)))), (rm 5, .inl (cI, 5, .inl (fun k_ => nI (P 4 k_)))), (rm 6, .inl (cI, 5, .inl (fun k_ => nI (P 5 k_)))), (rm 10, .inl (cI, 20, .inl (mp c))), (rm 12, .inl (cI, 280, .inl bk))] (fun r (_ : Unit) => r = nI (cntD P c nd)) (fun (_ : Unit) => [(mo, o6 rm (nI tl) pl (nI np) (nI nq) (nI nd) rt rp rq rd (nI (ringN cnt)) (nI na) sd rw rx tm tf sm sf), (rm 1, .inl (cI, 5, .inl (fun k_ => nI (P 0 k_)))), (rm 3, .inl (cI, 5, .inl (fun k_ => nI (P 2 k_)))), (rm 4, .inl (cI, 5, .inl (fun k_ => nI (P 3 k_)))), (rm 5, .inl (cI, 5, .inl (fun k_ => nI (P 4 k_)))), (rm 6, .inl (cI, 5, .inl (fun k_ => nI (P 5 k_)))), (rm 10, .inl (cI, 20, .inl (mp (passF P nq nd c)))), (rm 12, .inl (cI, 280, .inl (bkN bk cnt c)))]) 0 0 := by
  refine g_startI (ret := (some .int)) (own := RX6) (lv0 := [(0, .ref mo)]) (by decide) rfl rfl (Nat.le_of_ble_eq_true rfl) rfl ?_
  intro p e s m args below meth cd A Q hin hr hQ hC
  have hcw6 : ∀ w ∈ wsX60, w ∈ wsX6_day := fun _ h => List.mem_cons_of_mem _ (List.mem_append_right _ h)
  have w1 := hC.1.2.2.2.2 (.fieldLink "PluckBrokerModel" 68 "PluckBrokerModel" "thrown" "I") (List.mem_of_getElem? (i := 1) rfl)
  have w2 := hC.1.2.2.2.2 (.fieldLink "PluckBrokerModel" 40 "PluckBrokerModel" "page" "[I") (List.mem_of_getElem? (i := 2) rfl)
  refine g_aload_n hC 0 dX6_day_0 rfl rfl ?_
  refine g_iconst (v := nI 0) hC dX6_day_1 rfl ?_
  refine g_put (C := RX6) (T := TX6) (N := 38) (ci := 6) (v := .int (nI 0)) hC hcw6 tyX6 tyX6_ok nmX6 0 rfl rfl 0 (by decide) w1 (fun _ h => h) rfl (tyX6_ok 0 (by decide)) rfl rfl (Nat.le_of_ble_eq_true rfl) [(mo, o6 rm (nI tl) pl (nI np) (nI nq) (nI nd) rt rp rq rd (nI cnt) (nI na) sd rw rx tm tf sm sf), (rm 1, .inl (cI, 5, .inl (fun k_ => nI (P 0 k_)))), (rm 3, .inl (cI, 5, .inl (fun k_ => nI (P 2 k_)))), (rm 4, .inl (cI, 5, .inl (fun k_ => nI (P 3 k_)))), (rm 5, .inl (cI, 5, .inl (fun k_ => nI (P 4 k_)))), (rm 6, .inl (cI, 5, .inl (fun k_ => nI (P 5 k_)))), (rm 10, .inl (cI, 20, .inl (mp c))), (rm 12, .inl (cI, 280, .inl bk))] rfl dX6_day_2 ?_
  refine g_aload_n hC 0 dX6_day_5 rfl rfl ?_
  refine g_callVv (As := []) (rest := []) hC (c_X6_note l D cI cZ mo rm tl pl np nq nd rt rp rq rd cnt na sd rw rx tm tf sm sf c bk (by first | assumption | omega)) (cwV 0 hC.1.2.2.2.2 gX6_day_X6_note rfl rfl rfl dV_X6_note ⟨Nat.le_of_ble_eq_true rfl, Nat.le_of_ble_eq_true rfl⟩) rfl rfl rfl rfl (Nat.le_of_ble_eq_true rfl) dX6_day_6 ⟨Nat.le_of_ble_eq_true rfl, Nat.le_of_ble_eq_true rfl⟩ [0, 6, 7] [1, 2, 3, 4, 5] [5, 0, 1, 2, 3, 4, 6, 7] (fun (_ : Unit) => [(mo, o6 rm (nI tl) pl (nI np) (nI nq) (nI nd) rt rp rq rd (nI (ringN cnt)) (nI na) sd rw rx tm tf sm sf), (rm 1, .inl (cI, 5, .inl (fun k_ => nI (P 0 k_)))), (rm 3, .inl (cI, 5, .inl (fun k_ => nI (P 2 k_)))), (rm 4, .inl (cI, 5, .inl (fun k_ => nI (P 3 k_)))), (rm 5, .inl (cI, 5, .inl (fun k_ => nI (P 4 k_)))), (rm 6, .inl (cI, 5, .inl (fun k_ => nI (P 5 k_)))), (rm 10, .inl (cI, 20, .inl (mp c))), (rm 12, .inl (cI, 280, .inl (bkN bk cnt c)))]) rfl rfl rfl (fun _ => rfl) (fun z6 hp6 => ?_)
  refine g_is (ws2 := [(mo, o6 rm (nI tl) pl (nI np) (nI nq) (nI nd) rt rp rq rd (nI (ringN cnt)) (nI na) sd rw rx tm tf sm sf), (rm 1, .inl (cI, 5, .inl (fun k_ => nI (P 0 k_)))), (rm 3, .inl (cI, 5, .inl (fun k_ => nI (P 2 k_)))), (rm 4, .inl (cI, 5, .inl (fun k_ => nI (P 3 k_)))), (rm 5, .inl (cI, 5, .inl (fun k_ => nI (P 4 k_)))), (rm 6, .inl (cI, 5, .inl (fun k_ => nI (P 5 k_)))), (rm 10, .inl (cI, 20, .inl (mp c))), (rm 12, .inl (cI, 280, .inl (bkN bk cnt c)))]) (lv2 := [(0, .ref mo)]) (st2 := []) rfl rfl rfl ?_
  refine g_aload_n hC 0 dX6_day_9 rfl rfl ?_
  refine g_aload_n hC 0 dX6_day_10 rfl rfl ?_
  refine g_get (C := RX6) (T := TX6) (N := 38) (ci := 6) (v := .ref (rm 10)) hC hcw6 0 rfl rfl 20 (by decide) w2 (fun _ h => h) rfl dX6_day_11 ?_
  refine g_callVi (As := [.ref (rm 10)]) (rest := []) hC (c_X6_goDay l D cI cZ mo rm tl pl np nq nd rt rp rq rd (ringN cnt) na sd rw rx tm tf sm sf P (rm 10) c (by first | assumption | omega) (Fr_fresh hW hFr (by omega))) (cwV 1 hC.1.2.2.2.2 gX6_day_X6_goDay rfl rfl rfl dV_X6_goDay ⟨Nat.le_of_ble_eq_true rfl, Nat.le_of_ble_eq_true rfl⟩) rfl rfl rfl rfl (Nat.le_of_ble_eq_true rfl) dX6_day_14 ⟨Nat.le_of_ble_eq_true rfl, Nat.le_of_ble_eq_true rfl⟩ [0, 1, 2, 3, 4, 5, 6] [7] [1, 2, 3, 4, 5, 6, 7, 0] (fun (_ : Unit) => [(mo, o6 rm (nI tl) pl (nI np) (nI nq) (nI nd) rt rp rq rd (nI (ringN cnt)) (nI na) sd rw rx tm tf sm sf), (rm 1, .inl (cI, 5, .inl (fun k_ => nI (P 0 k_)))), (rm 3, .inl (cI, 5, .inl (fun k_ => nI (P 2 k_)))), (rm 4, .inl (cI, 5, .inl (fun k_ => nI (P 3 k_)))), (rm 5, .inl (cI, 5, .inl (fun k_ => nI (P 4 k_)))), (rm 6, .inl (cI, 5, .inl (fun k_ => nI (P 5 k_)))), ((rm 10), .inl (cI, 20, .inl (mp (passF P nq nd c)))), (rm 12, .inl (cI, 280, .inl (bkN bk cnt c)))]) rfl rfl rfl (fun _ => rfl) (fun r14 z14 hp14 => ?_)
  try dsimp only at hp14
  subst hp14
  refine g_is (ws2 := [(mo, o6 rm (nI tl) pl (nI np) (nI nq) (nI nd) rt rp rq rd (nI (ringN cnt)) (nI na) sd rw rx tm tf sm sf), (rm 1, .inl (cI, 5, .inl (fun k_ => nI (P 0 k_)))), (rm 3, .inl (cI, 5, .inl (fun k_ => nI (P 2 k_)))), (rm 4, .inl (cI, 5, .inl (fun k_ => nI (P 3 k_)))), (rm 5, .inl (cI, 5, .inl (fun k_ => nI (P 4 k_)))), (rm 6, .inl (cI, 5, .inl (fun k_ => nI (P 5 k_)))), ((rm 10), .inl (cI, 20, .inl (mp (passF P nq nd c)))), (rm 12, .inl (cI, 280, .inl (bkN bk cnt c)))]) (lv2 := [(0, .ref mo)]) (st2 := [.int (nI (cntD P c nd))]) rfl rfl rfl ?_
  subst hQ
  refine g_iret (v := nI (cntD P c nd)) hC () hr ?_ rfl dX6_day_17
  rfl

abbrev rm_X6_pledge : Room := { frames := 2, cells := 0, slots := 0, locals := 46 }
set_option maxRecDepth 100000 in
set_option maxHeartbeats 4000000 in
theorem c_X6_pledge (l : Launch) (D : va_G) (cI cZ : ClassId) (mo : Nat) (rm : Nat → Nat) (tl : Nat) (pl : Int32) (np : Nat) (nq : Nat) (nd : Nat) (rt : Int32) (rp : Int32) (rq : Int32) (rd : Int32) (cnt : Nat) (na : Nat) (sd : Int64) (rw : Int32) (rx : Int32) (tm : Int32) (tf : Int32) (sm : Int32) (sf : Int32) (P : Nat → Nat → Nat) (c : Nat → Int32) (bk : Nat → Int32) (a : Int32) (hW : WFP np nq nd P) (hcnt : cnt ≤ 14) : CtI l yX6_pledge wsX6_pledge rm_X6_pledge D cI cZ [.ref mo, .int a] [(mo, o6 rm (nI tl) pl (nI np) (nI nq) (nI nd) rt rp rq rd (nI cnt) (nI na) sd rw rx tm tf sm sf), (rm 1, .inl (cI, 5, .inl (fun k_ => nI (P 0 k_)))), (rm 2, .inl (cI, 5, .inl (fun k_ => nI (P 1 k_)))), (rm 10, .inl (cI, 20, .inl (mp c))), (rm 12, .inl (cI, 280, .inl bk))] (fun (r : Int32) (z : (Nat → Int32) × (Nat → Int32) × Nat) => match z with | (c2, bk2, cnt2) => (r, c2, bk2, cnt2) = if inR a nq then (if canP P c (K a) then (tryP P c (K a) 0, tryP P c (K a), bkN bk cnt c, ringN cnt) else ((-3), c, bk, cnt)) else ((-1), c, bk, cnt)) (fun (z : (Nat → Int32) × (Nat → Int32) × Nat) => match z with | (c2, bk2, cnt2) => [(mo, o6 rm (nI tl) pl (nI np) (nI nq) (nI nd) rt rp rq rd (nI cnt2) (nI na) sd rw rx tm tf sm sf), (rm 1, .inl (cI, 5, .inl (fun k_ => nI (P 0 k_)))), (rm 2, .inl (cI, 5, .inl (fun k_ => nI (P 1 k_)))), (rm 10, .inl (cI, 20, .inl (mp c2))), (rm 12, .inl (cI, 280, .inl bk2))]) 0 0 := by
  refine g_startI (ret := (some .int)) (own := RX6) (lv0 := [(0, .ref mo), (1, .int a)]) (by decide) rfl rfl (Nat.le_of_ble_eq_true rfl) rfl ?_
  intro p e s m args below meth cd A Q hin hr hQ hC
  have hcw6 : ∀ w ∈ wsX60, w ∈ wsX6_pledge := fun _ h => List.mem_cons_of_mem _ (List.mem_append_right _ h)
  have w1 := hC.1.2.2.2.2 (.fieldLink "PluckBrokerModel" 68 "PluckBrokerModel" "thrown" "I") (List.mem_of_getElem? (i := 1) rfl)
  have w2 := hC.1.2.2.2.2 (.fieldLink "PluckBrokerModel" 40 "PluckBrokerModel" "page" "[I") (List.mem_of_getElem? (i := 2) rfl)
  obtain ⟨⟨hnp, hnq, hnd⟩, hq4, hd5⟩ := id hW
  refine g_aload_n hC 0 dX6_pledge_0 rfl rfl ?_
  refine g_iconst (v := nI 0) hC dX6_pledge_1 rfl ?_
  refine g_put (C := RX6) (T := TX6) (N := 38) (ci := 6) (v := .int (nI 0)) hC hcw6 tyX6 tyX6_ok nmX6 0 rfl rfl 0 (by decide) w1 (fun _ h => h) rfl (tyX6_ok 0 (by decide)) rfl rfl (Nat.le_of_ble_eq_true rfl) [(mo, o6 rm (nI tl) pl (nI np) (nI nq) (nI nd) rt rp rq rd (nI cnt) (nI na) sd rw rx tm tf sm sf), (rm 1, .inl (cI, 5, .inl (fun k_ => nI (P 0 k_)))), (rm 2, .inl (cI, 5, .inl (fun k_ => nI (P 1 k_)))), (rm 10, .inl (cI, 20, .inl (mp c))), (rm 12, .inl (cI, 280, .inl bk))] rfl dX6_pledge_2 ?_
  refine g_aload_n hC 0 dX6_pledge_5 rfl rfl ?_
  refine g_iload_n hC 1 dX6_pledge_6 rfl rfl ?_
  refine g_callVip (As := [.int a]) (rest := []) hC (bI (¬ inR a nq)) (c_X6_noQuality l D cI cZ mo rm tl pl np nq nd rt rp rq rd cnt na sd rw rx tm tf sm sf a (by omega)) (cwV 1 hC.1.2.2.2.2 gX6_pledge_X6_noQuality rfl rfl rfl dV_X6_noQuality ⟨Nat.le_of_ble_eq_true rfl, Nat.le_of_ble_eq_true rfl⟩) rfl rfl rfl rfl (Nat.le_of_ble_eq_true rfl) dX6_pledge_7 ⟨Nat.le_of_ble_eq_true rfl, Nat.le_of_ble_eq_true rfl⟩ [0] rfl rfl ?_
  refine g_if_eq_b hC 15 dX6_pledge_10 (by decide) (fun h10t => ?_) (fun h10f => ?_)
  · obtain ⟨k, hk, rfl⟩ := inR_n (by omega) (Decidable.not_not.mp h10t)
    have hin2 := inR_k (n := nq) (by omega) hk
    have hKk : K (nI k) = k := K_n (by omega)
    refine g_aload_n hC 0 dX6_pledge_15 rfl rfl ?_
    refine g_aload_n hC 0 dX6_pledge_16 rfl rfl ?_
    refine g_get (C := RX6) (T := TX6) (N := 38) (ci := 6) (v := .ref (rm 10)) hC hcw6 0 rfl rfl 20 (by decide) w2 (fun _ h => h) rfl dX6_pledge_17 ?_
    refine g_iload_n hC 1 dX6_pledge_20 rfl rfl ?_
    refine g_callVip (As := [.ref (rm 10), .int (nI k)]) (rest := []) hC (bI (canP P c k)) (c_X6_canPledge l D cI cZ mo rm tl pl np nq nd rt rp rq rd cnt na sd rw rx tm tf sm sf P (rm 10) c k (by first | assumption | omega) (by first | assumption | omega)) (cwV 2 hC.1.2.2.2.2 gX6_pledge_X6_canPledge rfl rfl rfl dV_X6_canPledge ⟨Nat.le_of_ble_eq_true rfl, Nat.le_of_ble_eq_true rfl⟩) rfl rfl rfl rfl (Nat.le_of_ble_eq_true rfl) dX6_pledge_21 ⟨Nat.le_of_ble_eq_true rfl, Nat.le_of_ble_eq_true rfl⟩ [0, 2, 3] rfl rfl ?_
    refine g_if_ne_b hC 30 dX6_pledge_24 (by decide) (fun h24t => ?_) (fun h24f => ?_)
    · refine g_aload_n hC 0 dX6_pledge_30 rfl rfl ?_
      refine g_callVv (As := []) (rest := []) hC (c_X6_note l D cI cZ mo rm tl pl np nq nd rt rp rq rd cnt na sd rw rx tm tf sm sf c bk (by first | assumption | omega)) (cwV 0 hC.1.2.2.2.2 gX6_pledge_X6_note rfl rfl rfl dV_X6_note ⟨Nat.le_of_ble_eq_true rfl, Nat.le_of_ble_eq_true rfl⟩) rfl rfl rfl rfl (Nat.le_of_ble_eq_true rfl) dX6_pledge_31 ⟨Nat.le_of_ble_eq_true rfl, Nat.le_of_ble_eq_true rfl⟩ [0, 3, 4] [1, 2] [2, 0, 1, 3, 4] (fun (_ : Unit) => [(mo, o6 rm (nI tl) pl (nI np) (nI nq) (nI nd) rt rp rq rd (nI (ringN cnt)) (nI na) sd rw rx tm tf sm sf), (rm 1, .inl (cI, 5, .inl (fun k_ => nI (P 0 k_)))), (rm 2, .inl (cI, 5, .inl (fun k_ => nI (P 1 k_)))), (rm 10, .inl (cI, 20, .inl (mp c))), (rm 12, .inl (cI, 280, .inl (bkN bk cnt c)))]) rfl rfl rfl (fun _ => rfl) (fun z31 hp31 => ?_)
      refine g_is (ws2 := [(mo, o6 rm (nI tl) pl (nI np) (nI nq) (nI nd) rt rp rq rd (nI (ringN cnt)) (nI na) sd rw rx tm tf sm sf), (rm 1, .inl (cI, 5, .inl (fun k_ => nI (P 0 k_)))), (rm 2, .inl (cI, 5, .inl (fun k_ => nI (P 1 k_)))), (rm 10, .inl (cI, 20, .inl (mp c))), (rm 12, .inl (cI, 280, .inl (bkN bk cnt c)))]) (lv2 := [(0, .ref mo), (1, .int (nI k))]) (st2 := []) rfl rfl rfl ?_
      refine g_aload_n hC 0 dX6_pledge_34 rfl rfl ?_
      refine g_aload_n hC 0 dX6_pledge_35 rfl rfl ?_
      refine g_get (C := RX6) (T := TX6) (N := 38) (ci := 6) (v := .ref (rm 10)) hC hcw6 0 rfl rfl 20 (by decide) w2 (fun _ h => h) rfl dX6_pledge_36 ?_
      refine g_iload_n hC 1 dX6_pledge_39 rfl rfl ?_
      refine g_callVv (As := [.ref (rm 10), .int (nI k)]) (rest := []) hC (c_X6_goPledge l D cI cZ mo rm tl pl np nq nd rt rp rq rd (ringN cnt) na sd rw rx tm tf sm sf P (rm 10) c k (by first | assumption | omega) (by first | assumption | omega)) (cwV 2 hC.1.2.2.2.2 gX6_pledge_X6_goPledge rfl rfl rfl dV_X6_goPledge ⟨Nat.le_of_ble_eq_true rfl, Nat.le_of_ble_eq_true rfl⟩) rfl rfl rfl rfl (Nat.le_of_ble_eq_true rfl) dX6_pledge_40 ⟨Nat.le_of_ble_eq_true rfl, Nat.le_of_ble_eq_true rfl⟩ [0, 1, 2, 3] [4] [1, 2, 3, 4, 0] (fun (_ : Unit) => [(mo, o6 rm (nI tl) pl (nI np) (nI nq) (nI nd) rt rp rq rd (nI (ringN cnt)) (nI na) sd rw rx tm tf sm sf), (rm 1, .inl (cI, 5, .inl (fun k_ => nI (P 0 k_)))), (rm 2, .inl (cI, 5, .inl (fun k_ => nI (P 1 k_)))), ((rm 10), .inl (cI, 20, .inl (mp (pledgeF P c k)))), (rm 12, .inl (cI, 280, .inl (bkN bk cnt c)))]) rfl rfl rfl (fun _ => rfl) (fun z40 hp40 => ?_)
      refine g_is (ws2 := [(mo, o6 rm (nI tl) pl (nI np) (nI nq) (nI nd) rt rp rq rd (nI (ringN cnt)) (nI na) sd rw rx tm tf sm sf), (rm 1, .inl (cI, 5, .inl (fun k_ => nI (P 0 k_)))), (rm 2, .inl (cI, 5, .inl (fun k_ => nI (P 1 k_)))), ((rm 10), .inl (cI, 20, .inl (mp (pledgeF P c k)))), (rm 12, .inl (cI, 280, .inl (bkN bk cnt c)))]) (lv2 := [(0, .ref mo), (1, .int (nI k))]) (st2 := []) rfl rfl rfl ?_
      have ho3 := (hq4 k hk).1
      refine g_aload_n hC 0 dX6_pledge_43 rfl rfl ?_
      refine g_get (C := RX6) (T := TX6) (N := 38) (ci := 6) (v := .ref (rm 10)) hC hcw6 0 rfl rfl 20 (by decide) w2 (fun _ h => h) rfl dX6_pledge_44 ?_
      refine g_iconst (v := nI 0) hC dX6_pledge_47 rfl ?_
      refine g_iald hC 3 rfl 0 rfl (by omega) (by decide) dX6_pledge_48 ?_
      refine g_top (y := (pledgeF P c k) 0) (mp_0 _) ?_
      subst hQ
      refine g_iret (v := (pledgeF P c k) 0) hC (pledgeF P c k, bkN bk cnt c, (ringN cnt)) hr ?_ rfl dX6_pledge_49
      rw [if_pos hin2, hKk, if_pos h24t, tryP, if_pos h24t]
    refine g_bipush (v := (-3)) hC dX6_pledge_27 (by decide +kernel) ?_
    subst hQ
    refine g_iret (v := -3) hC (c, bk, cnt) hr ?_ rfl dX6_pledge_29
    rw [if_pos hin2, hKk, if_neg h24f]
  refine g_iconst (v := (-1)) hC dX6_pledge_13 rfl ?_
  subst hQ
  refine g_iret (v := -1) hC (c, bk, cnt) hr ?_ rfl dX6_pledge_14
  rw [if_neg h10f]

abbrev rm_X6_redeem : Room := { frames := 3, cells := 0, slots := 0, locals := 68 }
set_option maxRecDepth 100000 in
set_option maxHeartbeats 4000000 in
theorem c_X6_redeem (l : Launch) (D : va_G) (cI cZ : ClassId) (mo : Nat) (rm : Nat → Nat) (tl : Nat) (pl : Int32) (np : Nat) (nq : Nat) (nd : Nat) (rt : Int32) (rp : Int32) (rq : Int32) (rd : Int32) (cnt : Nat) (na : Nat) (sd : Int64) (rw : Int32) (rx : Int32) (tm : Int32) (tf : Int32) (sm : Int32) (sf : Int32) (P : Nat → Nat → Nat) (c : Nat → Int32) (bk : Nat → Int32) (a : Int32) (hW : WFP np nq nd P) (hcnt : cnt ≤ 14) : CtI l yX6_redeem wsX6_redeem rm_X6_redeem D cI cZ [.ref mo, .int a] [(mo, o6 rm (nI tl) pl (nI np) (nI nq) (nI nd) rt rp rq rd (nI cnt) (nI na) sd rw rx tm tf sm sf), (rm 1, .inl (cI, 5, .inl (fun k_ => nI (P 0 k_)))), (rm 2, .inl (cI, 5, .inl (fun k_ => nI (P 1 k_)))), (rm 3, .inl (cI, 5, .inl (fun k_ => nI (P 2 k_)))), (rm 10, .inl (cI, 20, .inl (mp c))), (rm 12, .inl (cI, 280, .inl bk))] (fun (r : Int32) (z : (Nat → Int32) × (Nat → Int32) × Nat) => match z with | (c2, bk2, cnt2) => (r, c2, bk2, cnt2) = if inR a nq then (if canR P c (K a) then (tryR P c (K a) (2 + P 0 (K a)), tryR P c (K a), bkN bk cnt c, ringN cnt) else ((-3), c, bk, cnt)) else ((-1), c, bk, cnt)) (fun (z : (Nat → Int32) × (Nat → Int32) × Nat) => match z with | (c2, bk2, cnt2) => [(mo, o6 rm (nI tl) pl (nI np) (nI nq) (nI nd) rt rp rq rd (nI cnt2) (nI na) sd rw rx tm tf sm sf), (rm 1, .inl (cI, 5, .inl (fun k_ => nI (P 0 k_)))), (rm 2, .inl (cI, 5, .inl (fun k_ => nI (P 1 k_)))), (rm 3, .inl (cI, 5, .inl (fun k_ => nI (P 2 k_)))), (rm 10, .inl (cI, 20, .inl (mp c2))), (rm 12, .inl (cI, 280, .inl bk2))]) 0 0 := by
  refine g_startI (ret := (some .int)) (own := RX6) (lv0 := [(0, .ref mo), (1, .int a)]) (by decide) rfl rfl (Nat.le_of_ble_eq_true rfl) rfl ?_
  intro p e s m args below meth cd A Q hin hr hQ hC
  have hcw6 : ∀ w ∈ wsX60, w ∈ wsX6_redeem := fun _ h => List.mem_cons_of_mem _ (List.mem_append_right _ h)
  have w1 := hC.1.2.2.2.2 (.fieldLink "PluckBrokerModel" 68 "PluckBrokerModel" "thrown" "I") (List.mem_of_getElem? (i := 1) rfl)
  have w2 := hC.1.2.2.2.2 (.fieldLink "PluckBrokerModel" 40 "PluckBrokerModel" "page" "[I") (List.mem_of_getElem? (i := 2) rfl)
  have w3 := hC.1.2.2.2.2 (.fieldLink "PluckBrokerModel" 13 "PluckBrokerModel" "owner" "[I") (List.mem_of_getElem? (i := 3) rfl)
  obtain ⟨⟨hnp, hnq, hnd⟩, hq4, hd5⟩ := id hW
  refine g_aload_n hC 0 dX6_redeem_0 rfl rfl ?_
  refine g_iconst (v := nI 0) hC dX6_redeem_1 rfl ?_
  refine g_put (C := RX6) (T := TX6) (N := 38) (ci := 6) (v := .int (nI 0)) hC hcw6 tyX6 tyX6_ok nmX6 0 rfl rfl 0 (by decide) w1 (fun _ h => h) rfl (tyX6_ok 0 (by decide)) rfl rfl (Nat.le_of_ble_eq_true rfl) [(mo, o6 rm (nI tl) pl (nI np) (nI nq) (nI nd) rt rp rq rd (nI cnt) (nI na) sd rw rx tm tf sm sf), (rm 1, .inl (cI, 5, .inl (fun k_ => nI (P 0 k_)))), (rm 2, .inl (cI, 5, .inl (fun k_ => nI (P 1 k_)))), (rm 3, .inl (cI, 5, .inl (fun k_ => nI (P 2 k_)))), (rm 10, .inl (cI, 20, .inl (mp c))), (rm 12, .inl (cI, 280, .inl bk))] rfl dX6_redeem_2 ?_
  refine g_aload_n hC 0 dX6_redeem_5 rfl rfl ?_
  refine g_iload_n hC 1 dX6_redeem_6 rfl rfl ?_
  refine g_callVip (As := [.int a]) (rest := []) hC (bI (¬ inR a nq)) (c_X6_noQuality l D cI cZ mo rm tl pl np nq nd rt rp rq rd cnt na sd rw rx tm tf sm sf a (by omega)) (cwV 1 hC.1.2.2.2.2 gX6_redeem_X6_noQuality rfl rfl rfl dV_X6_noQuality ⟨Nat.le_of_ble_eq_true rfl, Nat.le_of_ble_eq_true rfl⟩) rfl rfl rfl rfl (Nat.le_of_ble_eq_true rfl) dX6_redeem_7 ⟨Nat.le_of_ble_eq_true rfl, Nat.le_of_ble_eq_true rfl⟩ [0] rfl rfl ?_
  refine g_if_eq_b hC 15 dX6_redeem_10 (by decide) (fun h10t => ?_) (fun h10f => ?_)
  · obtain ⟨k, hk, rfl⟩ := inR_n (by omega) (Decidable.not_not.mp h10t)
    have hin2 := inR_k (n := nq) (by omega) hk
    have hKk : K (nI k) = k := K_n (by omega)
    refine g_aload_n hC 0 dX6_redeem_15 rfl rfl ?_
    refine g_aload_n hC 0 dX6_redeem_16 rfl rfl ?_
    refine g_get (C := RX6) (T := TX6) (N := 38) (ci := 6) (v := .ref (rm 10)) hC hcw6 0 rfl rfl 20 (by decide) w2 (fun _ h => h) rfl dX6_redeem_17 ?_
    refine g_iload_n hC 1 dX6_redeem_20 rfl rfl ?_
    refine g_callVip (As := [.ref (rm 10), .int (nI k)]) (rest := []) hC (bI (canR P c k)) (c_X6_canRedeem l D cI cZ mo rm tl pl np nq nd rt rp rq rd cnt na sd rw rx tm tf sm sf P (rm 10) c k (by first | assumption | omega) (by first | assumption | omega)) (cwV 2 hC.1.2.2.2.2 gX6_redeem_X6_canRedeem rfl rfl rfl dV_X6_canRedeem ⟨Nat.le_of_ble_eq_true rfl, Nat.le_of_ble_eq_true rfl⟩) rfl rfl rfl rfl (Nat.le_of_ble_eq_true rfl) dX6_redeem_21 ⟨Nat.le_of_ble_eq_true rfl, Nat.le_of_ble_eq_true rfl⟩ [0, 1, 2, 3, 4] rfl rfl ?_
    refine g_if_ne_b hC 30 dX6_redeem_24 (by decide) (fun h24t => ?_) (fun h24f => ?_)
    · refine g_aload_n hC 0 dX6_redeem_30 rfl rfl ?_
      refine g_callVv (As := []) (rest := []) hC (c_X6_note l D cI cZ mo rm tl pl np nq nd rt rp rq rd cnt na sd rw rx tm tf sm sf c bk (by first | assumption | omega)) (cwV 0 hC.1.2.2.2.2 gX6_redeem_X6_note rfl rfl rfl dV_X6_note ⟨Nat.le_of_ble_eq_true rfl, Nat.le_of_ble_eq_true rfl⟩) rfl rfl rfl rfl (Nat.le_of_ble_eq_true rfl) dX6_redeem_31 ⟨Nat.le_of_ble_eq_true rfl, Nat.le_of_ble_eq_true rfl⟩ [0, 4, 5] [1, 2, 3] [3, 0, 1, 2, 4, 5] (fun (_ : Unit) => [(mo, o6 rm (nI tl) pl (nI np) (nI nq) (nI nd) rt rp rq rd (nI (ringN cnt)) (nI na) sd rw rx tm tf sm sf), (rm 1, .inl (cI, 5, .inl (fun k_ => nI (P 0 k_)))), (rm 2, .inl (cI, 5, .inl (fun k_ => nI (P 1 k_)))), (rm 3, .inl (cI, 5, .inl (fun k_ => nI (P 2 k_)))), (rm 10, .inl (cI, 20, .inl (mp c))), (rm 12, .inl (cI, 280, .inl (bkN bk cnt c)))]) rfl rfl rfl (fun _ => rfl) (fun z31 hp31 => ?_)
      refine g_is (ws2 := [(mo, o6 rm (nI tl) pl (nI np) (nI nq) (nI nd) rt rp rq rd (nI (ringN cnt)) (nI na) sd rw rx tm tf sm sf), (rm 1, .inl (cI, 5, .inl (fun k_ => nI (P 0 k_)))), (rm 2, .inl (cI, 5, .inl (fun k_ => nI (P 1 k_)))), (rm 3, .inl (cI, 5, .inl (fun k_ => nI (P 2 k_)))), (rm 10, .inl (cI, 20, .inl (mp c))), (rm 12, .inl (cI, 280, .inl (bkN bk cnt c)))]) (lv2 := [(0, .ref mo), (1, .int (nI k))]) (st2 := []) rfl rfl rfl ?_
      refine g_aload_n hC 0 dX6_redeem_34 rfl rfl ?_
      refine g_aload_n hC 0 dX6_redeem_35 rfl rfl ?_
      refine g_get (C := RX6) (T := TX6) (N := 38) (ci := 6) (v := .ref (rm 10)) hC hcw6 0 rfl rfl 20 (by decide) w2 (fun _ h => h) rfl dX6_redeem_36 ?_
      refine g_iload_n hC 1 dX6_redeem_39 rfl rfl ?_
      refine g_callVv (As := [.ref (rm 10), .int (nI k)]) (rest := []) hC (c_X6_goRedeem l D cI cZ mo rm tl pl np nq nd rt rp rq rd (ringN cnt) na sd rw rx tm tf sm sf P (rm 10) c k (by first | assumption | omega) (by first | assumption | omega)) (cwV 2 hC.1.2.2.2.2 gX6_redeem_X6_goRedeem rfl rfl rfl dV_X6_goRedeem ⟨Nat.le_of_ble_eq_true rfl, Nat.le_of_ble_eq_true rfl⟩) rfl rfl rfl rfl (Nat.le_of_ble_eq_true rfl) dX6_redeem_40 ⟨Nat.le_of_ble_eq_true rfl, Nat.le_of_ble_eq_true rfl⟩ [0, 1, 2, 3, 4] [5] [1, 2, 3, 4, 5, 0] (fun (_ : Unit) => [(mo, o6 rm (nI tl) pl (nI np) (nI nq) (nI nd) rt rp rq rd (nI (ringN cnt)) (nI na) sd rw rx tm tf sm sf), (rm 1, .inl (cI, 5, .inl (fun k_ => nI (P 0 k_)))), (rm 2, .inl (cI, 5, .inl (fun k_ => nI (P 1 k_)))), (rm 3, .inl (cI, 5, .inl (fun k_ => nI (P 2 k_)))), ((rm 10), .inl (cI, 20, .inl (mp (redeemF P c k)))), (rm 12, .inl (cI, 280, .inl (bkN bk cnt c)))]) rfl rfl rfl (fun _ => rfl) (fun z40 hp40 => ?_)
      refine g_is (ws2 := [(mo, o6 rm (nI tl) pl (nI np) (nI nq) (nI nd) rt rp rq rd (nI (ringN cnt)) (nI na) sd rw rx tm tf sm sf), (rm 1, .inl (cI, 5, .inl (fun k_ => nI (P 0 k_)))), (rm 2, .inl (cI, 5, .inl (fun k_ => nI (P 1 k_)))), (rm 3, .inl (cI, 5, .inl (fun k_ => nI (P 2 k_)))), ((rm 10), .inl (cI, 20, .inl (mp (redeemF P c k)))), (rm 12, .inl (cI, 280, .inl (bkN bk cnt c)))]) (lv2 := [(0, .ref mo), (1, .int (nI k))]) (st2 := []) rfl rfl rfl ?_
      have ho3 := (hq4 k hk).1
      refine g_aload_n hC 0 dX6_redeem_43 rfl rfl ?_
      refine g_get (C := RX6) (T := TX6) (N := 38) (ci := 6) (v := .ref (rm 10)) hC hcw6 0 rfl rfl 20 (by decide) w2 (fun _ h => h) rfl dX6_redeem_44 ?_
      refine g_iconst (v := nI 1) hC dX6_redeem_47 rfl ?_
      refine g_aload_n hC 0 dX6_redeem_48 rfl rfl ?_
      refine g_get (C := RX6) (T := TX6) (N := 38) (ci := 6) (v := .ref (rm 1)) hC hcw6 0 rfl rfl 6 (by decide) w3 (fun _ h => h) rfl dX6_redeem_49 ?_
      refine g_iload_n hC 1 dX6_redeem_52 rfl rfl ?_
      refine g_iald hC 1 rfl k rfl (by omega) (by decide) dX6_redeem_53 ?_
      refine g_iadd_n (a := 1) (b := (P 0 k)) hC dX6_redeem_54 ?_
      refine g_iald hC 4 rfl (1 + (P 0 k)) rfl (by omega) (by decide) dX6_redeem_55 ?_
      refine g_top (y := (redeemF P c k) (2 + (P 0 k))) (mp_1 _ (by omega)) ?_
      subst hQ
      refine g_iret (v := (redeemF P c k) (2 + (P 0 k))) hC (redeemF P c k, bkN bk cnt c, (ringN cnt)) hr ?_ rfl dX6_redeem_56
      rw [if_pos hin2, hKk, if_pos h24t, tryR, if_pos h24t]
    refine g_bipush (v := (-3)) hC dX6_redeem_27 (by decide +kernel) ?_
    subst hQ
    refine g_iret (v := -3) hC (c, bk, cnt) hr ?_ rfl dX6_redeem_29
    rw [if_pos hin2, hKk, if_neg h24f]
  refine g_iconst (v := (-1)) hC dX6_redeem_13 rfl ?_
  subst hQ
  refine g_iret (v := -1) hC (c, bk, cnt) hr ?_ rfl dX6_redeem_14
  rw [if_neg h10f]

abbrev rm_X6_give : Room := { frames := 2, cells := 0, slots := 0, locals := 46 }
set_option maxRecDepth 100000 in
set_option maxHeartbeats 4000000 in
theorem c_X6_give (l : Launch) (D : va_G) (cI cZ : ClassId) (mo : Nat) (rm : Nat → Nat) (tl : Nat) (pl : Int32) (np : Nat) (nq : Nat) (nd : Nat) (rt : Int32) (rp : Int32) (rq : Int32) (rd : Int32) (cnt : Nat) (na : Nat) (sd : Int64) (rw : Int32) (rx : Int32) (tm : Int32) (tf : Int32) (sm : Int32) (sf : Int32) (c : Nat → Int32) (bk : Nat → Int32) (a : Int32) (v : Int32) (hnp : np ≤ 3) (hcnt : cnt ≤ 14) : CtI l yX6_give wsX6_give rm_X6_give D cI cZ [.ref mo, .int a, .int v] [(mo, o6 rm (nI tl) pl (nI np) (nI nq) (nI nd) rt rp rq rd (nI cnt) (nI na) sd rw rx tm tf sm sf), (rm 10, .inl (cI, 20, .inl (mp c))), (rm 12, .inl (cI, 280, .inl bk))] (fun (r : Int32) (z : (Nat → Int32) × (Nat → Int32) × Nat) => match z with | (c2, bk2, cnt2) => (r, c2, bk2, cnt2) = if inR a np then (if okG v then (tryG c (K a) v (2 + K a), tryG c (K a) v, bkN bk cnt c, ringN cnt) else ((-2), c, bk, cnt)) else ((-1), c, bk, cnt)) (fun (z : (Nat → Int32) × (Nat → Int32) × Nat) => match z with | (c2, bk2, cnt2) => [(mo, o6 rm (nI tl) pl (nI np) (nI nq) (nI nd) rt rp rq rd (nI cnt2) (nI na) sd rw rx tm tf sm sf), (rm 10, .inl (cI, 20, .inl (mp c2))), (rm 12, .inl (cI, 280, .inl bk2))]) 0 0 := by
  refine g_startI (ret := (some .int)) (own := RX6) (lv0 := [(0, .ref mo), (1, .int a), (2, .int v)]) (by decide) rfl rfl (Nat.le_of_ble_eq_true rfl) rfl ?_
  intro p e s m args below meth cd A Q hin hr hQ hC
  have hcw6 : ∀ w ∈ wsX60, w ∈ wsX6_give := fun _ h => List.mem_cons_of_mem _ (List.mem_append_right _ h)
  have w1 := hC.1.2.2.2.2 (.fieldLink "PluckBrokerModel" 68 "PluckBrokerModel" "thrown" "I") (List.mem_of_getElem? (i := 1) rfl)
  have w2 := hC.1.2.2.2.2 (.constantLong "PluckBrokerModel" 184 9) (List.mem_of_getElem? (i := 2) rfl)
  have w3 := hC.1.2.2.2.2 (.fieldLink "PluckBrokerModel" 40 "PluckBrokerModel" "page" "[I") (List.mem_of_getElem? (i := 3) rfl)
  refine g_aload_n hC 0 dX6_give_0 rfl rfl ?_
  refine g_iconst (v := nI 0) hC dX6_give_1 rfl ?_
  refine g_put (C := RX6) (T := TX6) (N := 38) (ci := 6) (v := .int (nI 0)) hC hcw6 tyX6 tyX6_ok nmX6 0 rfl rfl 0 (by decide) w1 (fun _ h => h) rfl (tyX6_ok 0 (by decide)) rfl rfl (Nat.le_of_ble_eq_true rfl) [(mo, o6 rm (nI tl) pl (nI np) (nI nq) (nI nd) rt rp rq rd (nI cnt) (nI na) sd rw rx tm tf sm sf), (rm 10, .inl (cI, 20, .inl (mp c))), (rm 12, .inl (cI, 280, .inl bk))] rfl dX6_give_2 ?_
  refine g_aload_n hC 0 dX6_give_5 rfl rfl ?_
  refine g_iload_n hC 1 dX6_give_6 rfl rfl ?_
  refine g_callVip (As := [.int a]) (rest := []) hC (bI (¬ inR a np)) (c_X6_noPerson l D cI cZ mo rm tl pl np nq nd rt rp rq rd cnt na sd rw rx tm tf sm sf a (by omega)) (cwV 1 hC.1.2.2.2.2 gX6_give_X6_noPerson rfl rfl rfl dV_X6_noPerson ⟨Nat.le_of_ble_eq_true rfl, Nat.le_of_ble_eq_true rfl⟩) rfl rfl rfl rfl (Nat.le_of_ble_eq_true rfl) dX6_give_7 ⟨Nat.le_of_ble_eq_true rfl, Nat.le_of_ble_eq_true rfl⟩ [0] rfl rfl ?_
  refine g_if_eq_b hC 15 dX6_give_10 (by decide) (fun h10t => ?_) (fun h10f => ?_)
  · obtain ⟨k, hk, rfl⟩ := inR_n (by omega) (Decidable.not_not.mp h10t)
    have hin2 := inR_k (n := np) (by omega) hk
    have hKk : K (nI k) = k := K_n (by omega)
    refine g_iload_n hC 2 dX6_give_15 rfl rfl ?_
    refine g_i2l hC dX6_give_16 rfl ?_
    refine g_lconst (v := (nI 1).toInt64) hC dX6_give_17 (by decide +kernel) ?_
    refine g_ldc2 (v := 9) hC w2 dX6_give_18 ?_
    refine g_topl (y := (nI 9).toInt64) (by decide +kernel) ?_
    refine g_callSip (As := [.long v.toInt64, .long ((nI 1).toInt64), .long ((nI 9).toInt64)]) (rest := []) hC (bI ((nI 1) ≤ v ∧ v ≤ (nI 9))) (c_X6_in l D cI cZ v (nI 1) (nI 9)) (va_cwS 3 hC.1.2.2.2.2 gX6_give_X6_in rfl rfl rfl dS_X6_in ⟨Nat.le_of_ble_eq_true rfl, Nat.le_of_ble_eq_true rfl⟩) rfl rfl (Nat.le_of_ble_eq_true rfl) dX6_give_21 ⟨Nat.le_of_ble_eq_true rfl, Nat.le_of_ble_eq_true rfl⟩ [] rfl rfl ?_
    refine g_if_ne_b hC 30 dX6_give_24 (by decide) (fun h24t => ?_) (fun h24f => ?_)
    · refine g_aload_n hC 0 dX6_give_30 rfl rfl ?_
      refine g_callVv (As := []) (rest := []) hC (c_X6_note l D cI cZ mo rm tl pl np nq nd rt rp rq rd cnt na sd rw rx tm tf sm sf c bk (by first | assumption | omega)) (cwV 0 hC.1.2.2.2.2 gX6_give_X6_note rfl rfl rfl dV_X6_note ⟨Nat.le_of_ble_eq_true rfl, Nat.le_of_ble_eq_true rfl⟩) rfl rfl rfl rfl (Nat.le_of_ble_eq_true rfl) dX6_give_31 ⟨Nat.le_of_ble_eq_true rfl, Nat.le_of_ble_eq_true rfl⟩ [0, 1, 2] [] [0, 1, 2] (fun (_ : Unit) => [(mo, o6 rm (nI tl) pl (nI np) (nI nq) (nI nd) rt rp rq rd (nI (ringN cnt)) (nI na) sd rw rx tm tf sm sf), (rm 10, .inl (cI, 20, .inl (mp c))), (rm 12, .inl (cI, 280, .inl (bkN bk cnt c)))]) rfl rfl rfl (fun _ => rfl) (fun z31 hp31 => ?_)
      refine g_is (ws2 := [(mo, o6 rm (nI tl) pl (nI np) (nI nq) (nI nd) rt rp rq rd (nI (ringN cnt)) (nI na) sd rw rx tm tf sm sf), (rm 10, .inl (cI, 20, .inl (mp c))), (rm 12, .inl (cI, 280, .inl (bkN bk cnt c)))]) (lv2 := [(0, .ref mo), (1, .int (nI k)), (2, .int v)]) (st2 := []) rfl rfl rfl ?_
      refine g_aload_n hC 0 dX6_give_34 rfl rfl ?_
      refine g_get (C := RX6) (T := TX6) (N := 38) (ci := 6) (v := .ref (rm 10)) hC hcw6 0 rfl rfl 20 (by decide) w3 (fun _ h => h) rfl dX6_give_35 ?_
      refine g_iconst (v := nI 1) hC dX6_give_38 rfl ?_
      refine g_iload_n hC 1 dX6_give_39 rfl rfl ?_
      refine g_iadd_n (a := 1) (b := k) hC dX6_give_40 ?_
      refine g_dup2 hC dX6_give_41 rfl rfl ?_
      refine g_iald hC 1 rfl (1 + k) rfl (by omega) (by decide) dX6_give_42 ?_
      refine g_top (y := c (2 + k)) (mp_1 _ (by omega)) ?_
      refine g_iload_n hC 2 dX6_give_43 rfl rfl ?_
      refine g_iadd hC dX6_give_44 ?_
      refine g_iast hC 1 rfl (1 + k) rfl (by omega) (by decide) [(mo, o6 rm (nI tl) pl (nI np) (nI nq) (nI nd) rt rp rq rd (nI (ringN cnt)) (nI na) sd rw rx tm tf sm sf), (rm 10, .inl (cI, 20, .inl (upd (mp c) (1 + k) ((c (2 + k)) + v)))), (rm 12, .inl (cI, 280, .inl (bkN bk cnt c)))] rfl dX6_give_45 ?_
      refine g_ws (ws2 := [(mo, o6 rm (nI tl) pl (nI np) (nI nq) (nI nd) rt rp rq rd (nI (ringN cnt)) (nI na) sd rw rx tm tf sm sf), (rm 10, .inl (cI, 20, .inl (mp (upd c (2 + k) ((c (2 + k)) + v))))), (rm 12, .inl (cI, 280, .inl (bkN bk cnt c)))]) (congrArg (fun zz : Nat → Int32 => ([(mo, o6 rm (nI tl) pl (nI np) (nI nq) (nI nd) rt rp rq rd (nI (ringN cnt)) (nI na) sd rw rx tm tf sm sf), (rm 10, .inl (cI, 20, .inl zz)), (rm 12, .inl (cI, 280, .inl (bkN bk cnt c)))] : va_W)) (mpu_1 _ _ (by omega))) ?_
      refine g_aload_n hC 0 dX6_give_46 rfl rfl ?_
      refine g_get (C := RX6) (T := TX6) (N := 38) (ci := 6) (v := .ref (rm 10)) hC hcw6 0 rfl rfl 20 (by decide) w3 (fun _ h => h) rfl dX6_give_47 ?_
      refine g_iconst (v := nI 1) hC dX6_give_50 rfl ?_
      refine g_iload_n hC 1 dX6_give_51 rfl rfl ?_
      refine g_iadd_n (a := 1) (b := k) hC dX6_give_52 ?_
      refine g_iald hC 1 rfl (1 + k) rfl (by omega) (by decide) dX6_give_53 ?_
      refine g_top (y := (upd c (2 + k) ((c (2 + k)) + v)) (2 + k)) (mp_1 _ (by omega)) ?_
      subst hQ
      refine g_iret (v := (upd c (2 + k) ((c (2 + k)) + v)) (2 + k)) hC (upd c (2 + k) ((c (2 + k)) + v), bkN bk cnt c, ringN cnt) hr ?_ rfl dX6_give_54
      rw [if_pos hin2, if_pos h24t, hKk, tryG, if_pos h24t]; rfl
    refine g_bipush (v := (-2)) hC dX6_give_27 (by decide +kernel) ?_
    subst hQ
    refine g_iret (v := -2) hC (c, bk, cnt) hr ?_ rfl dX6_give_29
    rw [if_pos hin2, if_neg h24f]
  refine g_iconst (v := (-1)) hC dX6_give_13 rfl ?_
  subst hQ
  refine g_iret (v := -1) hC (c, bk, cnt) hr ?_ rfl dX6_give_14
  rw [if_neg h10f]
