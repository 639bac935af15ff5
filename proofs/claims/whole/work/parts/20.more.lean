abbrev rm_X5_judge : Room := { frames := 6, cells := 0, slots := 0, locals := 129 }
set_option maxRecDepth 100000 in
set_option maxHeartbeats 8000000 in
theorem c_X5_judge (l : Launch) (D : va_G) (cI cZ : ClassId) (xo : Nat) (xt : Nat) (xp : Nat) (xd : Nat) (xn : Nat) (xa : Nat) (xc : Nat) (xs : Nat) (xk : Nat) (ks : Int32) (ch : Int64) (xnc : Nat) (c : Nat → Int32) (xgc : Nat) (g : Nat → Int32) (r : Nat → Nat) (ti : Int32) (np : Nat) (nq : Nat) (nd : Nat) (P : Nat → Nat → Nat) (a : Int32) (w : Int64) (hW : WFP np nq nd P) : CtI l yX5_judge wsX5_judge rm_X5_judge D cI cZ [.ref xo, .int a, .long w] [(xo, o5 xt xp xd xn xa xc xs xk ks ch), (xn, .inr (3, [.ref xp, .ref xnc])), (xnc, .inl (cI, 20, .inl c)), (xa, .inr (3, [.ref xp, .ref xgc])), (xgc, .inl (cI, 20, .inl g)), (xp, o2 r ti np nq nd), (r 1, .inl (cI, 5, .inl (fun k_ => nI (P 0 k_)))), (r 2, .inl (cI, 5, .inl (fun k_ => nI (P 1 k_)))), (r 3, .inl (cI, 5, .inl (fun k_ => nI (P 2 k_)))), (r 4, .inl (cI, 5, .inl (fun k_ => nI (P 3 k_)))), (r 5, .inl (cI, 5, .inl (fun k_ => nI (P 4 k_)))), (r 6, .inl (cI, 5, .inl (fun k_ => nI (P 5 k_))))] (fun (r : Int32) (g2 : (Nat → Int32)) => r = judgeR np nq nd P c a w) (fun (g2 : (Nat → Int32)) => [(xo, o5 xt xp xd xn xa xc xs xk ks ch), (xn, .inr (3, [.ref xp, .ref xnc])), (xnc, .inl (cI, 20, .inl c)), (xa, .inr (3, [.ref xp, .ref xgc])), (xgc, .inl (cI, 20, .inl g2)), (xp, o2 r ti np nq nd), (r 1, .inl (cI, 5, .inl (fun k_ => nI (P 0 k_)))), (r 2, .inl (cI, 5, .inl (fun k_ => nI (P 1 k_)))), (r 3, .inl (cI, 5, .inl (fun k_ => nI (P 2 k_)))), (r 4, .inl (cI, 5, .inl (fun k_ => nI (P 3 k_)))), (r 5, .inl (cI, 5, .inl (fun k_ => nI (P 4 k_)))), (r 6, .inl (cI, 5, .inl (fun k_ => nI (P 5 k_))))]) 0 0 := by
  refine g_startI (ret := (some .int)) (own := RX5) (lv0 := [(0, .ref xo), (1, .int a), (2, .long w)]) (by decide) rfl rfl (Nat.le_of_ble_eq_true rfl) rfl ?_
  intro p e s m args below meth cd A Q hin hr hQ hC
  have hcw5 : ∀ w ∈ wsX50, w ∈ wsX5_judge := fun _ h => List.mem_cons_of_mem _ (List.mem_append_left _ (List.mem_append_left _ (List.mem_append_right _ h)))
  have w1 := hC.1.2.2.2.2 (.constantLong "PluckBroker" 200 1000) (List.mem_of_getElem? (i := 1) rfl)
  have w2 := hC.1.2.2.2.2 (.fieldLink "PluckBroker" 35 "PluckBroker" "ahead" "LPluckBroker$State;") (List.mem_of_getElem? (i := 2) rfl)
  have w3 := hC.1.2.2.2.2 (.fieldLink "PluckBroker" 31 "PluckBroker" "now" "LPluckBroker$State;") (List.mem_of_getElem? (i := 3) rfl)
  obtain ⟨⟨hnp, hnq, hnd⟩, hq4, hd5⟩ := id hW
  refine g_iload_n hC 1 dX5_judge_0 rfl rfl ?_
  refine g_iconst (v := nI 1) hC dX5_judge_1 rfl ?_
  refine g_icmp_lt hC 10 dX5_judge_2 (by decide) (fun h2t => ?_) (fun h2f => ?_)
  · refine g_bipush (v := (-2)) hC dX5_judge_10 (by decide +kernel) ?_
    subst hQ
    refine g_iret (v := -2) hC (g) hr ?_ rfl dX5_judge_12
    rw [judgeR, if_neg (fun q => absurd q.1 (Int32.not_le.mpr h2t))]
  refine g_iload_n hC 1 dX5_judge_5 rfl rfl ?_
  refine g_iconst (v := nI 4) hC dX5_judge_6 rfl ?_
  refine g_icmp_le hC 13 dX5_judge_7 (by decide) (fun h7t => ?_) (fun h7f => ?_)
  · obtain ⟨jn, hj1, hj4, rfl⟩ := ok_n1 (M := 4) (by decide) h2f h7t
    have okj : okJ (nI jn) := ⟨nI_le hj1 (by omega), nI_le hj4 (by decide)⟩
    have hKj : K (nI jn) = jn := K_n (by omega)
    have hpj := p1000 hj4
    refine g_lconst (v := (nI 1).toInt64) hC dX5_judge_13 (by decide +kernel) ?_
    refine g_topl (y := lN 1) (nI_l (by decide)) ?_
    refine g_lstore (lv' := [(0, .ref xo), (1, .int (nI jn)), (2, .long w), (4, .long (lN 1))]) hC [1, 2, 3, 0] dX5_judge_14 (by decide) rfl ?_
    refine g_iconst (v := nI 0) hC dX5_judge_16 rfl ?_
    refine g_istore (lv' := [(0, .ref xo), (1, .int (nI jn)), (2, .long w), (4, .long (lN 1)), (6, .int (nI 0))]) hC [1, 2, 3, 4, 0] dX5_judge_17 (by decide) rfl ?_
    have L19 : ∀ (n : Nat) (i : Nat) (lim : Nat), (i ≤ jn) → (lim = 1000 ^ i) → jn - i < n → G p l e rm_X5_judge s m args below meth cd D A 0 0 Q 10 [(xo, o5 xt xp xd xn xa xc xs xk ks ch), (xn, .inr (3, [.ref xp, .ref xnc])), (xnc, .inl (cI, 20, .inl c)), (xa, .inr (3, [.ref xp, .ref xgc])), (xgc, .inl (cI, 20, .inl g)), (xp, o2 r ti np nq nd), (r 1, .inl (cI, 5, .inl (fun k_ => nI (P 0 k_)))), (r 2, .inl (cI, 5, .inl (fun k_ => nI (P 1 k_)))), (r 3, .inl (cI, 5, .inl (fun k_ => nI (P 2 k_)))), (r 4, .inl (cI, 5, .inl (fun k_ => nI (P 3 k_)))), (r 5, .inl (cI, 5, .inl (fun k_ => nI (P 4 k_)))), (r 6, .inl (cI, 5, .inl (fun k_ => nI (P 5 k_))))] 19 [(0, .ref xo), (1, .int (nI jn)), (2, .long w), (4, .long (lN lim)), (6, .int (nI i))] [] := by
      intro n
      induction n with
      | zero => intro i lim hi hlim hn; exact absurd hn (Nat.not_lt_zero _)
      | succ n ih19 =>
        intro i lim hi hlim hn
        refine g_iload hC 4 dX5_judge_19 rfl ?_
        refine g_iload_n hC 1 dX5_judge_21 rfl rfl ?_
        refine g_icmp_ge_n (a := i) (b := jn) hC (by omega) (by omega) 39 dX5_judge_22 (by decide) (fun h22t => ?_) (fun h22f => ?_)
        · have ei : i = jn := by omega
          rw [ei] at hlim
          refine g_lload_n hC 2 dX5_judge_39 rfl rfl ?_
          refine g_lconst (v := (nI 0).toInt64) hC dX5_judge_40 (by decide +kernel) ?_
          refine g_lcmp hC dX5_judge_41 ?_
          refine g_if_lt hC 52 dX5_judge_42 (by decide) (fun h42t => ?_) (fun h42f => ?_)
          · refine g_bipush (v := (-2)) hC dX5_judge_52 (by decide +kernel) ?_
            subst hQ
            refine g_iret (v := -2) hC (g) hr ?_ rfl dX5_judge_54
            rw [judgeR, if_pos okj, hKj, if_neg (fun q => absurd ((lg_cmp_lt w (nI 0).toInt64).mp h42t) (by have := q.1; rw [Int64.lt_iff_toInt_lt]; rw [Int64.le_iff_toInt_le] at this; exact Int.not_lt.mpr this))]
          have hw0 : ¬ w < 0 := fun q => h42f ((lg_cmp_lt w (nI 0).toInt64).mpr q)
          obtain ⟨rh, hrh, rfl⟩ := pk_lOf hw0
          refine g_lload_n hC 2 dX5_judge_45 rfl rfl ?_
          refine g_lload hC 3 dX5_judge_46 rfl ?_
          refine g_lcmp hC dX5_judge_48 ?_
          refine g_if_lt hC 55 dX5_judge_49 (by decide) (fun h49t => ?_) (fun h49f => ?_)
          · refine g_aload_n hC 0 dX5_judge_55 rfl rfl ?_
            refine g_get (C := RX5) (T := TX5) (N := 10) (ci := 5) (v := .ref xa) hC hcw5 0 rfl rfl 4 (by decide) w2 (fun _ h => h) rfl dX5_judge_56 ?_
            refine g_aload_n hC 0 dX5_judge_59 rfl rfl ?_
            refine g_get (C := RX5) (T := TX5) (N := 10) (ci := 5) (v := .ref xn) hC hcw5 0 rfl rfl 3 (by decide) w3 (fun _ h => h) rfl dX5_judge_60 ?_
            refine g_callVv (As := [.ref xn]) (rest := []) hC (c_X3_copy l D cI cZ xa xp xgc g xn xp xnc c) (cwV 1 hC.1.2.2.2.2 gX5_judge_X3_copy rfl rfl rfl dV_X3_copy ⟨Nat.le_of_ble_eq_true rfl, Nat.le_of_ble_eq_true rfl⟩) rfl rfl rfl rfl (Nat.le_of_ble_eq_true rfl) dX5_judge_63 ⟨Nat.le_of_ble_eq_true rfl, Nat.le_of_ble_eq_true rfl⟩ [3, 4, 1, 2] [0, 5, 6, 7, 8, 9, 10, 11] [0, 10, 11, 8, 9, 1, 2, 3, 4, 5, 6, 7] (fun (_ : Unit) => [(xo, o5 xt xp xd xn xa xc xs xk ks ch), (xn, .inr (3, [.ref xp, .ref xnc])), (xnc, .inl (cI, 20, .inl c)), (xa, .inr (3, [.ref xp, .ref xgc])), (xgc, .inl (cI, 20, .inl c)), (xp, o2 r ti np nq nd), (r 1, .inl (cI, 5, .inl (fun k_ => nI (P 0 k_)))), (r 2, .inl (cI, 5, .inl (fun k_ => nI (P 1 k_)))), (r 3, .inl (cI, 5, .inl (fun k_ => nI (P 2 k_)))), (r 4, .inl (cI, 5, .inl (fun k_ => nI (P 3 k_)))), (r 5, .inl (cI, 5, .inl (fun k_ => nI (P 4 k_)))), (r 6, .inl (cI, 5, .inl (fun k_ => nI (P 5 k_))))]) rfl rfl rfl (fun _ => rfl) (fun z63 hp63 => ?_)
            refine g_is (ws2 := [(xo, o5 xt xp xd xn xa xc xs xk ks ch), (xn, .inr (3, [.ref xp, .ref xnc])), (xnc, .inl (cI, 20, .inl c)), (xa, .inr (3, [.ref xp, .ref xgc])), (xgc, .inl (cI, 20, .inl c)), (xp, o2 r ti np nq nd), (r 1, .inl (cI, 5, .inl (fun k_ => nI (P 0 k_)))), (r 2, .inl (cI, 5, .inl (fun k_ => nI (P 1 k_)))), (r 3, .inl (cI, 5, .inl (fun k_ => nI (P 2 k_)))), (r 4, .inl (cI, 5, .inl (fun k_ => nI (P 3 k_)))), (r 5, .inl (cI, 5, .inl (fun k_ => nI (P 4 k_)))), (r 6, .inl (cI, 5, .inl (fun k_ => nI (P 5 k_))))]) (lv2 := [(0, .ref xo), (1, .int (nI jn)), (2, .long (lN rh)), (4, .long (lN lim)), (6, .int (nI i))]) (st2 := []) rfl rfl rfl ?_
            refine g_lload hC 3 dX5_judge_66 rfl ?_
            refine g_ldc2 (v := 1000) hC w1 dX5_judge_68 ?_
            refine g_topl (y := (nI 1000).toInt64) (by decide +kernel) ?_
            refine g_topl (y := lN 1000) (nI_l (by decide)) ?_
            refine g_ldiv (x := lN lim) (y := lN 1000) hC dX5_judge_71 (fun q => (by omega : 1000 ≠ 0) ((pk_lEQ (a := 1000) (b := 0) (by omega) (by decide)).mp q)) ?_
            refine g_topl (y := lN (lim / 1000)) (pk_lDiv (by omega) (by omega) (by omega)) ?_
            refine g_lstore (lv' := [(0, .ref xo), (1, .int (nI jn)), (2, .long (lN rh)), (4, .long (lN lim)), (6, .long (lN (lim / 1000)))]) hC [1, 2, 3, 4, 0] dX5_judge_72 (by decide) rfl ?_
            refine g_iconst (v := nI 0) hC dX5_judge_74 rfl ?_
            refine g_istore (lv' := [(0, .ref xo), (1, .int (nI jn)), (2, .long (lN rh)), (4, .long (lN lim)), (6, .long (lN (lim / 1000))), (8, .int (nI 0))]) hC [1, 2, 3, 4, 5, 0] dX5_judge_75 (by decide) rfl ?_
            have L77 : ∀ (n : Nat) (k : Nat) (un : Nat) (gg : Nat → Int32), (k ≤ jn) → (un = 1000 ^ (jn - k) / 1000) → (un ≤ 1000000000000) → (judF P np nq nd rh jn jn 0 c = judF P np nq nd rh jn (jn - k) k gg) → jn - k < n → G p l e rm_X5_judge s m args below meth cd D A 0 0 Q 10 [(xo, o5 xt xp xd xn xa xc xs xk ks ch), (xn, .inr (3, [.ref xp, .ref xnc])), (xnc, .inl (cI, 20, .inl c)), (xa, .inr (3, [.ref xp, .ref xgc])), (xgc, .inl (cI, 20, .inl gg)), (xp, o2 r ti np nq nd), (r 1, .inl (cI, 5, .inl (fun k_ => nI (P 0 k_)))), (r 2, .inl (cI, 5, .inl (fun k_ => nI (P 1 k_)))), (r 3, .inl (cI, 5, .inl (fun k_ => nI (P 2 k_)))), (r 4, .inl (cI, 5, .inl (fun k_ => nI (P 3 k_)))), (r 5, .inl (cI, 5, .inl (fun k_ => nI (P 4 k_)))), (r 6, .inl (cI, 5, .inl (fun k_ => nI (P 5 k_))))] 77 [(0, .ref xo), (1, .int (nI jn)), (2, .long (lN rh)), (6, .long (lN un)), (8, .int (nI k))] [] := by
              intro n
              induction n with
              | zero => intro k un gg hk hun hub he hn; exact absurd hn (Nat.not_lt_zero _)
              | succ n ih77 =>
                intro k un gg hk hun hub he hn
                refine g_iload hC 4 dX5_judge_77 rfl ?_
                refine g_iload_n hC 1 dX5_judge_79 rfl rfl ?_
                refine g_icmp_ge_n (a := k) (b := jn) hC (by omega) (by omega) 146 dX5_judge_80 (by decide) (fun h80t => ?_) (fun h80f => ?_)
                · refine g_bipush (v := (-9)) hC dX5_judge_146 (by decide +kernel) ?_
                  subst hQ
                  refine g_iret (v := -9) hC (gg) hr ?_ rfl dX5_judge_148
                  have ek : k = jn := by omega
                  rw [judgeR, if_pos okj, hKj, if_pos ⟨(pk_lLE (a := 0) (by decide) hrh).mpr (Nat.zero_le _), by rw [← hlim]; exact (lg_cmp_lt _ _).mp h49t⟩, KL_n hrh, he, show jn - k = 0 by omega]; rfl
                refine g_lload hC 3 dX5_judge_83 rfl ?_
                refine g_lconst (v := (nI 0).toInt64) hC dX5_judge_85 (by decide +kernel) ?_
                refine g_lcmp hC dX5_judge_86 ?_
                refine g_if_le hC 146 dX5_judge_87 (by decide) (fun h87t => ?_) (fun h87f => ?_)
                · exact absurd ((lg_cmp_le _ _).mp h87t) (fun q => by have := (pk_lLE (a := un) (b := 0) (by omega) (by decide)).mp q; have := r1000 (k := k) (n := jn) (by omega); omega)
                refine g_lload_n hC 2 dX5_judge_90 rfl rfl ?_
                refine g_lload hC 3 dX5_judge_91 rfl ?_
                refine g_ldiv (x := lN rh) (y := lN un) hC dX5_judge_93 (fun q => (by have := r1000 (k := k) (n := jn) (by omega); omega : un ≠ 0) ((pk_lEQ (a := un) (b := 0) (by have := r1000 (k := k) (n := jn) (by omega); omega) (by decide)).mp q)) ?_
                refine g_topl (y := lN (rh / un)) (pk_lDiv (by have := r1000 (k := k) (n := jn) (by omega); omega) (by have := r1000 (k := k) (n := jn) (by omega); omega) (by have := r1000 (k := k) (n := jn) (by omega); omega)) ?_
                refine g_ldc2 (v := 1000) hC w1 dX5_judge_94 ?_
                refine g_topl (y := (nI 1000).toInt64) (by decide +kernel) ?_
                refine g_topl (y := lN 1000) (nI_l (by decide)) ?_
                refine g_lrem (x := lN (rh / un)) (y := lN 1000) hC dX5_judge_97 (fun q => (by first | omega | (have := Nat.div_le_self rh un; omega) : 1000 ≠ 0) ((pk_lEQ (a := 1000) (b := 0) (by first | omega | (have := Nat.div_le_self rh un; omega)) (by decide)).mp q)) ?_
                refine g_topl (y := lN ((rh / un) % 1000)) (pk_lRem (by first | omega | (have := Nat.div_le_self rh un; omega)) (by first | omega | (have := Nat.div_le_self rh un; omega)) (by first | omega | (have := Nat.div_le_self rh un; omega))) ?_
                refine g_l2i (v := nI ((rh / un) % 1000)) hC dX5_judge_98 (lN_i _) ?_
                refine g_istore (lv' := [(0, .ref xo), (1, .int (nI jn)), (2, .long (lN rh)), (6, .long (lN un)), (8, .int (nI k)), (9, .int (nI ((rh / un) % 1000)))]) hC [1, 2, 3, 4, 5, 0] dX5_judge_99 (by decide) rfl ?_
                have hunb := r1000 (k := k) (n := jn) (by omega)
                obtain ⟨t, ht⟩ : ∃ t, t = rh / un % 1000 := ⟨_, rfl⟩
                have ht1 : t < 1000 := by rw [ht]; exact Nat.mod_lt _ (by decide)
                have elv : (nI ((rh / un) % 1000)) = nI t := by rw [ht]
                refine g_lve (congrArg (fun zz : Int32 => ([(0, .ref xo), (1, .int (nI jn)), (2, .long (lN rh)), (6, .long (lN un)), (8, .int (nI k)), (9, .int zz)] : List (Nat × Value))) elv) ?_
                refine g_aload_n hC 0 dX5_judge_101 rfl rfl ?_
                refine g_get (C := RX5) (T := TX5) (N := 10) (ci := 5) (v := .ref xa) hC hcw5 0 rfl rfl 4 (by decide) w2 (fun _ h => h) rfl dX5_judge_102 ?_
                refine g_iload hC 5 dX5_judge_105 rfl ?_
                refine g_bipush (v := nI 100) hC dX5_judge_107 (by decide +kernel) ?_
                refine g_idiv_n (a := t) (b := 100) hC (by omega) (by omega) (by omega) dX5_judge_109 ?_
                refine g_iload hC 5 dX5_judge_110 rfl ?_
                refine g_bipush (v := nI 10) hC dX5_judge_112 (by decide +kernel) ?_
                refine g_idiv_n (a := t) (b := 10) hC (by omega) (by omega) (by omega) dX5_judge_114 ?_
                refine g_bipush (v := nI 10) hC dX5_judge_115 (by decide +kernel) ?_
                refine g_irem_n (a := (t / 10)) (b := 10) hC (by omega) (by omega) (by omega) dX5_judge_117 ?_
                refine g_iload hC 5 dX5_judge_118 rfl ?_
                refine g_bipush (v := nI 10) hC dX5_judge_120 (by decide +kernel) ?_
                refine g_irem_n (a := t) (b := 10) hC (by omega) (by omega) (by omega) dX5_judge_122 ?_
                refine g_callVi (As := [.int (nI (t / 100)), .int (nI ((t / 10) % 10)), .int (nI (t % 10))]) (rest := []) hC (c_X3_goesThrough l D cI cZ xa xp xgc gg r ti np nq nd P (t / 100) ((t / 10) % 10) (t % 10) (by first | assumption | omega) (by omega) (by omega) (by omega)) (cwV 3 hC.1.2.2.2.2 gX5_judge_X3_goesThrough rfl rfl rfl dV_X3_goesThrough ⟨Nat.le_of_ble_eq_true rfl, Nat.le_of_ble_eq_true rfl⟩) rfl rfl rfl rfl (Nat.le_of_ble_eq_true rfl) dX5_judge_123 ⟨Nat.le_of_ble_eq_true rfl, Nat.le_of_ble_eq_true rfl⟩ [3, 4, 5, 6, 7, 8, 9, 10, 11] [0, 1, 2] [0, 1, 2, 3, 4, 5, 6, 7, 8, 9, 10, 11] (fun (_ : Unit) => [(xo, o5 xt xp xd xn xa xc xs xk ks ch), (xn, .inr (3, [.ref xp, .ref xnc])), (xnc, .inl (cI, 20, .inl c)), (xa, .inr (3, [.ref xp, .ref xgc])), (xgc, .inl (cI, 20, .inl (doF P np nq nd gg (t / 100) ((t / 10) % 10) (t % 10)))), (xp, o2 r ti np nq nd), (r 1, .inl (cI, 5, .inl (fun k_ => nI (P 0 k_)))), (r 2, .inl (cI, 5, .inl (fun k_ => nI (P 1 k_)))), (r 3, .inl (cI, 5, .inl (fun k_ => nI (P 2 k_)))), (r 4, .inl (cI, 5, .inl (fun k_ => nI (P 3 k_)))), (r 5, .inl (cI, 5, .inl (fun k_ => nI (P 4 k_)))), (r 6, .inl (cI, 5, .inl (fun k_ => nI (P 5 k_))))]) rfl rfl rfl (fun _ => rfl) (fun r123 z123 hp123 => ?_)
                try dsimp only at hp123
                subst hp123
                refine g_is (ws2 := [(xo, o5 xt xp xd xn xa xc xs xk ks ch), (xn, .inr (3, [.ref xp, .ref xnc])), (xnc, .inl (cI, 20, .inl c)), (xa, .inr (3, [.ref xp, .ref xgc])), (xgc, .inl (cI, 20, .inl (doF P np nq nd gg (t / 100) ((t / 10) % 10) (t % 10)))), (xp, o2 r ti np nq nd), (r 1, .inl (cI, 5, .inl (fun k_ => nI (P 0 k_)))), (r 2, .inl (cI, 5, .inl (fun k_ => nI (P 1 k_)))), (r 3, .inl (cI, 5, .inl (fun k_ => nI (P 2 k_)))), (r 4, .inl (cI, 5, .inl (fun k_ => nI (P 3 k_)))), (r 5, .inl (cI, 5, .inl (fun k_ => nI (P 4 k_)))), (r 6, .inl (cI, 5, .inl (fun k_ => nI (P 5 k_))))]) (lv2 := [(0, .ref xo), (1, .int (nI jn)), (2, .long (lN rh)), (6, .long (lN un)), (8, .int (nI k)), (9, .int (nI t))]) (st2 := [.int (bI (doOK P np nq nd gg (t / 100) ((t / 10) % 10) (t % 10)))]) rfl rfl rfl ?_
                refine g_if_ne_b hC 132 dX5_judge_126 (by decide) (fun h126t => ?_) (fun h126f => ?_)
                · refine g_lload hC 3 dX5_judge_132 rfl ?_
                  refine g_ldc2 (v := 1000) hC w1 dX5_judge_134 ?_
                  refine g_topl (y := (nI 1000).toInt64) (by decide +kernel) ?_
                  refine g_topl (y := lN 1000) (nI_l (by decide)) ?_
                  refine g_ldiv (x := lN un) (y := lN 1000) hC dX5_judge_137 (fun q => (by have := r1000 (k := k) (n := jn) (by omega); omega : 1000 ≠ 0) ((pk_lEQ (a := 1000) (b := 0) (by have := r1000 (k := k) (n := jn) (by omega); omega) (by decide)).mp q)) ?_
                  refine g_topl (y := lN (un / 1000)) (pk_lDiv (by have := r1000 (k := k) (n := jn) (by omega); omega) (by have := r1000 (k := k) (n := jn) (by omega); omega) (by have := r1000 (k := k) (n := jn) (by omega); omega)) ?_
                  refine g_lstore (lv' := [(0, .ref xo), (1, .int (nI jn)), (2, .long (lN rh)), (6, .long (lN (un / 1000))), (8, .int (nI k)), (9, .int (nI t))]) hC [1, 2, 3, 0, 4, 5] dX5_judge_138 (by decide) rfl ?_
                  refine g_iinc (v := nI (k + 1)) (lv' := [(0, .ref xo), (1, .int (nI jn)), (2, .long (lN rh)), (6, .long (lN (un / 1000))), (8, .int (nI (k + 1))), (9, .int (nI t))]) hC 4 [1, 2, 3, 4, 0, 5] dX5_judge_140 rfl (nI_add _ 1) (by decide) rfl ?_
                  refine g_goto hC 77 dX5_judge_143 (by decide) ?_
                  refine g_lv [0, 1, 2, 3, 4] (lv2 := [(0, .ref xo), (1, .int (nI jn)), (2, .long (lN rh)), (6, .long (lN (un / 1000))), (8, .int (nI (k + 1)))]) rfl ?_
                  refine ih77 (k + 1) (un / 1000) (doF P np nq nd gg (t / 100) ((t / 10) % 10) (t % 10)) ?_ ?_ ?_ ?_ ?_
                  · omega
                  · rw [hun]; exact q1000 (by omega)
                  · have := Nat.div_le_self un 1000; omega
                  · rw [he, show jn - k = (jn - (k + 1)) + 1 by omega]
                    show (if stB P np nq nd gg (figT rh jn k) = true then _ else _) = _
                    have eT : figT rh jn k = t := by rw [ht, hun]; rfl
                    rw [eT, if_pos (show stB P np nq nd gg t = true from decide_eq_true h126t)]; rfl
                  · omega
                refine g_iload hC 4 dX5_judge_129 rfl ?_
                subst hQ
                refine g_iret (v := nI k) hC (doF P np nq nd gg (t / 100) ((t / 10) % 10) (t % 10)) hr ?_ rfl dX5_judge_131
                rw [judgeR, if_pos okj, hKj, if_pos ⟨(pk_lLE (a := 0) (by decide) hrh).mpr (Nat.zero_le _), by rw [← hlim]; exact (lg_cmp_lt _ _).mp h49t⟩, KL_n hrh, he, show jn - k = (jn - (k + 1)) + 1 by omega]
                show _ = (if stB P np nq nd gg (figT rh jn k) = true then _ else nI k)
                have eT : figT rh jn k = t := by rw [ht, hun]; rfl
                rw [eT, if_neg (show ¬ stB P np nq nd gg t = true from fun q => h126f (of_decide_eq_true q))]
            refine g_lv [0, 1, 2, 4, 5] (lv2 := [(0, .ref xo), (1, .int (nI jn)), (2, .long (lN rh)), (6, .long (lN (lim / 1000))), (8, .int (nI 0))]) rfl ?_
            refine L77 _ 0 (lim / 1000) c ?_ ?_ ?_ ?_ (Nat.lt_succ_self _)
            · omega
            · rw [hlim]; rfl
            · have := Nat.div_le_self lim 1000; omega
            · rfl
          refine g_bipush (v := (-2)) hC dX5_judge_52 (by decide +kernel) ?_
          subst hQ
          refine g_iret (v := -2) hC (g) hr ?_ rfl dX5_judge_54
          rw [judgeR, if_pos okj, hKj, if_neg (fun q => h49f ((lg_cmp_lt _ _).mpr (by rw [hlim]; exact q.2)))]
        refine g_lload hC 3 dX5_judge_25 rfl ?_
        refine g_ldc2 (v := 1000) hC w1 dX5_judge_27 ?_
        refine g_topl (y := (nI 1000).toInt64) (by decide +kernel) ?_
        refine g_topl (y := lN 1000) (nI_l (by decide)) ?_
        refine g_lmul hC dX5_judge_30 ?_
        refine g_topl (y := lN (lim * 1000)) (lN_mul _ _) ?_
        refine g_lstore (lv' := [(0, .ref xo), (1, .int (nI jn)), (2, .long w), (4, .long (lN (lim * 1000))), (6, .int (nI i))]) hC [1, 2, 3, 0, 4] dX5_judge_31 (by decide) rfl ?_
        refine g_iinc (v := nI (i + 1)) (lv' := [(0, .ref xo), (1, .int (nI jn)), (2, .long w), (4, .long (lN (lim * 1000))), (6, .int (nI (i + 1)))]) hC 4 [1, 2, 3, 4, 0] dX5_judge_33 rfl (nI_add _ 1) (by decide) rfl ?_
        refine g_goto hC 19 dX5_judge_36 (by decide) ?_
        refine ih19 (i + 1) (lim * 1000) ?_ ?_ ?_
        · omega
        · rw [hlim, Nat.pow_succ]
        · omega
    refine L19 _ 0 1 ?_ ?_ (Nat.lt_succ_self _)
    · omega
    · rfl
  refine g_bipush (v := (-2)) hC dX5_judge_10 (by decide +kernel) ?_
  subst hQ
  refine g_iret (v := -2) hC (g) hr ?_ rfl dX5_judge_12
  rw [judgeR, if_neg (fun q => absurd q.2 h7f)]

abbrev rm_X5_share : Room := { frames := 5, cells := 0, slots := 0, locals := 109 }
set_option maxRecDepth 100000 in
set_option maxHeartbeats 8000000 in
theorem c_X5_share (l : Launch) (D : va_G) (cI cZ : ClassId) (xo : Nat) (xt : Nat) (xp : Nat) (xd : Nat) (xn : Nat) (xa : Nat) (xc : Nat) (xs : Nat) (xk : Nat) (ks : Int32) (ch : Int64) (xnc : Nat) (c : Nat → Int32) (xgc : Nat) (g : Nat → Int32) (r : Nat → Nat) (ti : Int32) (np : Nat) (nq : Nat) (nd : Nat) (P : Nat → Nat → Nat) (a : Int32) (ub : Nat) (hW : WFP np nq nd P) (hub : ub < 2) (hge : ∀ a : Int32, pop5 (shA P nq nd c (-9)) ≤ pop5 (shA P nq nd c a)) : CtI l yX5_share wsX5_share rm_X5_share D cI cZ [.ref xo, .int a, .int (nI ub)] [(xo, o5 xt xp xd xn xa xc xs xk ks ch), (xn, .inr (3, [.ref xp, .ref xnc])), (xnc, .inl (cI, 20, .inl c)), (xa, .inr (3, [.ref xp, .ref xgc])), (xgc, .inl (cI, 20, .inl g)), (xp, o2 r ti np nq nd), (r 1, .inl (cI, 5, .inl (fun k_ => nI (P 0 k_)))), (r 2, .inl (cI, 5, .inl (fun k_ => nI (P 1 k_)))), (r 3, .inl (cI, 5, .inl (fun k_ => nI (P 2 k_)))), (r 4, .inl (cI, 5, .inl (fun k_ => nI (P 3 k_)))), (r 5, .inl (cI, 5, .inl (fun k_ => nI (P 4 k_)))), (r 6, .inl (cI, 5, .inl (fun k_ => nI (P 5 k_))))] (fun (r : Int32) (g2 : (Nat → Int32)) => r = shareR nq nd P c a ub) (fun (g2 : (Nat → Int32)) => [(xo, o5 xt xp xd xn xa xc xs xk ks ch), (xn, .inr (3, [.ref xp, .ref xnc])), (xnc, .inl (cI, 20, .inl c)), (xa, .inr (3, [.ref xp, .ref xgc])), (xgc, .inl (cI, 20, .inl g2)), (xp, o2 r ti np nq nd), (r 1, .inl (cI, 5, .inl (fun k_ => nI (P 0 k_)))), (r 2, .inl (cI, 5, .inl (fun k_ => nI (P 1 k_)))), (r 3, .inl (cI, 5, .inl (fun k_ => nI (P 2 k_)))), (r 4, .inl (cI, 5, .inl (fun k_ => nI (P 3 k_)))), (r 5, .inl (cI, 5, .inl (fun k_ => nI (P 4 k_)))), (r 6, .inl (cI, 5, .inl (fun k_ => nI (P 5 k_))))]) 0 0 := by
  refine g_startI (ret := (some .int)) (own := RX5) (lv0 := [(0, .ref xo), (1, .int a), (2, .int (nI ub))]) (by decide) rfl rfl (Nat.le_of_ble_eq_true rfl) rfl ?_
  intro p e s m args below meth cd A Q hin hr hQ hC
  have hcw5 : ∀ w ∈ wsX50, w ∈ wsX5_share := fun _ h => List.mem_cons_of_mem _ (List.mem_append_left _ (List.mem_append_left _ (List.mem_append_right _ h)))
  have w1 := hC.1.2.2.2.2 (.fieldLink "PluckBroker" 19 "PluckBroker" "plan" "LPluckBroker$Plan;") (List.mem_of_getElem? (i := 1) rfl)
  have w2 := hC.1.2.2.2.2 (.fieldLink "PluckBroker" 35 "PluckBroker" "ahead" "LPluckBroker$State;") (List.mem_of_getElem? (i := 2) rfl)
  have w3 := hC.1.2.2.2.2 (.fieldLink "PluckBroker" 31 "PluckBroker" "now" "LPluckBroker$State;") (List.mem_of_getElem? (i := 3) rfl)
  obtain ⟨⟨hnp, hnq, hnd⟩, hq4, hd5⟩ := id hW
  have hl5 : ∀ a : Int32, shA P nq nd c a < 32 := fun a => bts_le hnd
  refine g_aload_n hC 0 dX5_share_0 rfl rfl ?_
  refine g_get (C := RX5) (T := TX5) (N := 10) (ci := 5) (v := .ref xp) hC hcw5 0 rfl rfl 1 (by decide) w1 (fun _ h => h) rfl dX5_share_1 ?_
  refine g_iload_n hC 1 dX5_share_4 rfl rfl ?_
  refine g_callVip (As := [.int a]) (rest := []) hC (bI (inR a nq)) (c_X2_hasQuality l D cI cZ xp r ti np nq nd a hnq) (cwV 1 hC.1.2.2.2.2 gX5_share_X2_hasQuality rfl rfl rfl dV_X2_hasQuality ⟨Nat.le_of_ble_eq_true rfl, Nat.le_of_ble_eq_true rfl⟩) rfl rfl rfl rfl (Nat.le_of_ble_eq_true rfl) dX5_share_5 ⟨Nat.le_of_ble_eq_true rfl, Nat.le_of_ble_eq_true rfl⟩ [5] rfl rfl ?_
  refine g_if_ne_b hC 13 dX5_share_8 (by decide) (fun h8t => ?_) (fun h8f => ?_)
  · obtain ⟨k, hk, rfl⟩ := inR_n (by omega) h8t
    have hin2 := inR_k (n := nq) (by omega) hk
    have hKk : K (nI k) = k := K_n (by omega)
    refine g_aload_n hC 0 dX5_share_13 rfl rfl ?_
    refine g_get (C := RX5) (T := TX5) (N := 10) (ci := 5) (v := .ref xa) hC hcw5 0 rfl rfl 4 (by decide) w2 (fun _ h => h) rfl dX5_share_14 ?_
    refine g_aload_n hC 0 dX5_share_17 rfl rfl ?_
    refine g_get (C := RX5) (T := TX5) (N := 10) (ci := 5) (v := .ref xn) hC hcw5 0 rfl rfl 3 (by decide) w3 (fun _ h => h) rfl dX5_share_18 ?_
    refine g_callVv (As := [.ref xn]) (rest := []) hC (c_X3_copy l D cI cZ xa xp xgc g xn xp xnc c) (cwV 1 hC.1.2.2.2.2 gX5_share_X3_copy rfl rfl rfl dV_X3_copy ⟨Nat.le_of_ble_eq_true rfl, Nat.le_of_ble_eq_true rfl⟩) rfl rfl rfl rfl (Nat.le_of_ble_eq_true rfl) dX5_share_21 ⟨Nat.le_of_ble_eq_true rfl, Nat.le_of_ble_eq_true rfl⟩ [3, 4, 1, 2] [0, 5, 6, 7, 8, 9, 10, 11] [0, 10, 11, 8, 9, 1, 2, 3, 4, 5, 6, 7] (fun (_ : Unit) => [(xo, o5 xt xp xd xn xa xc xs xk ks ch), (xn, .inr (3, [.ref xp, .ref xnc])), (xnc, .inl (cI, 20, .inl c)), (xa, .inr (3, [.ref xp, .ref xgc])), (xgc, .inl (cI, 20, .inl c)), (xp, o2 r ti np nq nd), (r 1, .inl (cI, 5, .inl (fun k_ => nI (P 0 k_)))), (r 2, .inl (cI, 5, .inl (fun k_ => nI (P 1 k_)))), (r 3, .inl (cI, 5, .inl (fun k_ => nI (P 2 k_)))), (r 4, .inl (cI, 5, .inl (fun k_ => nI (P 3 k_)))), (r 5, .inl (cI, 5, .inl (fun k_ => nI (P 4 k_)))), (r 6, .inl (cI, 5, .inl (fun k_ => nI (P 5 k_))))]) rfl rfl rfl (fun _ => rfl) (fun z21 hp21 => ?_)
    refine g_is (ws2 := [(xo, o5 xt xp xd xn xa xc xs xk ks ch), (xn, .inr (3, [.ref xp, .ref xnc])), (xnc, .inl (cI, 20, .inl c)), (xa, .inr (3, [.ref xp, .ref xgc])), (xgc, .inl (cI, 20, .inl c)), (xp, o2 r ti np nq nd), (r 1, .inl (cI, 5, .inl (fun k_ => nI (P 0 k_)))), (r 2, .inl (cI, 5, .inl (fun k_ => nI (P 1 k_)))), (r 3, .inl (cI, 5, .inl (fun k_ => nI (P 2 k_)))), (r 4, .inl (cI, 5, .inl (fun k_ => nI (P 3 k_)))), (r 5, .inl (cI, 5, .inl (fun k_ => nI (P 4 k_)))), (r 6, .inl (cI, 5, .inl (fun k_ => nI (P 5 k_))))]) (lv2 := [(0, .ref xo), (1, .int (nI k)), (2, .int (nI ub))]) (st2 := []) rfl rfl rfl ?_
    refine g_aload_n hC 0 dX5_share_24 rfl rfl ?_
    refine g_get (C := RX5) (T := TX5) (N := 10) (ci := 5) (v := .ref xa) hC hcw5 0 rfl rfl 4 (by decide) w2 (fun _ h => h) rfl dX5_share_25 ?_
    refine g_bipush (v := (-9)) hC dX5_share_28 (by decide +kernel) ?_
    refine g_callVv (As := [.int (-9)]) (rest := []) hC (c_X3_sellAllBut l D cI cZ xa xp xgc c r ti np nq nd (-9) hnq) (cwV 1 hC.1.2.2.2.2 gX5_share_X3_sellAllBut rfl rfl rfl dV_X3_sellAllBut ⟨Nat.le_of_ble_eq_true rfl, Nat.le_of_ble_eq_true rfl⟩) rfl rfl rfl rfl (Nat.le_of_ble_eq_true rfl) dX5_share_30 ⟨Nat.le_of_ble_eq_true rfl, Nat.le_of_ble_eq_true rfl⟩ [3, 4, 5] [0, 1, 2, 6, 7, 8, 9, 10, 11] [0, 1, 2, 9, 10, 11, 3, 4, 5, 6, 7, 8] (fun (_ : Unit) => [(xo, o5 xt xp xd xn xa xc xs xk ks ch), (xn, .inr (3, [.ref xp, .ref xnc])), (xnc, .inl (cI, 20, .inl c)), (xa, .inr (3, [.ref xp, .ref xgc])), (xgc, .inl (cI, 20, .inl (sellB (-9) c nq))), (xp, o2 r ti np nq nd), (r 1, .inl (cI, 5, .inl (fun k_ => nI (P 0 k_)))), (r 2, .inl (cI, 5, .inl (fun k_ => nI (P 1 k_)))), (r 3, .inl (cI, 5, .inl (fun k_ => nI (P 2 k_)))), (r 4, .inl (cI, 5, .inl (fun k_ => nI (P 3 k_)))), (r 5, .inl (cI, 5, .inl (fun k_ => nI (P 4 k_)))), (r 6, .inl (cI, 5, .inl (fun k_ => nI (P 5 k_))))]) rfl rfl rfl (fun _ => rfl) (fun z30 hp30 => ?_)
    refine g_is (ws2 := [(xo, o5 xt xp xd xn xa xc xs xk ks ch), (xn, .inr (3, [.ref xp, .ref xnc])), (xnc, .inl (cI, 20, .inl c)), (xa, .inr (3, [.ref xp, .ref xgc])), (xgc, .inl (cI, 20, .inl (sellB (-9) c nq))), (xp, o2 r ti np nq nd), (r 1, .inl (cI, 5, .inl (fun k_ => nI (P 0 k_)))), (r 2, .inl (cI, 5, .inl (fun k_ => nI (P 1 k_)))), (r 3, .inl (cI, 5, .inl (fun k_ => nI (P 2 k_)))), (r 4, .inl (cI, 5, .inl (fun k_ => nI (P 3 k_)))), (r 5, .inl (cI, 5, .inl (fun k_ => nI (P 4 k_)))), (r 6, .inl (cI, 5, .inl (fun k_ => nI (P 5 k_))))]) (lv2 := [(0, .ref xo), (1, .int (nI k)), (2, .int (nI ub))]) (st2 := []) rfl rfl rfl ?_
    refine g_aload_n hC 0 dX5_share_33 rfl rfl ?_
    refine g_get (C := RX5) (T := TX5) (N := 10) (ci := 5) (v := .ref xa) hC hcw5 0 rfl rfl 4 (by decide) w2 (fun _ h => h) rfl dX5_share_34 ?_
    refine g_callVi (As := []) (rest := []) hC (c_X3_deedsInTheEnd l D cI cZ xa xp xgc (sellB (-9) c nq) r ti np nq nd P (by first | assumption | omega)) (cwV 0 hC.1.2.2.2.2 gX5_share_X3_deedsInTheEnd rfl rfl rfl dV_X3_deedsInTheEnd ⟨Nat.le_of_ble_eq_true rfl, Nat.le_of_ble_eq_true rfl⟩) rfl rfl rfl rfl (Nat.le_of_ble_eq_true rfl) dX5_share_37 ⟨Nat.le_of_ble_eq_true rfl, Nat.le_of_ble_eq_true rfl⟩ [3, 4, 5, 6, 7, 8, 9, 10, 11] [0, 1, 2] [0, 1, 2, 3, 4, 5, 6, 7, 8, 9, 10, 11] (fun (_ : Unit) => [(xo, o5 xt xp xd xn xa xc xs xk ks ch), (xn, .inr (3, [.ref xp, .ref xnc])), (xnc, .inl (cI, 20, .inl c)), (xa, .inr (3, [.ref xp, .ref xgc])), (xgc, .inl (cI, 20, .inl (passN P nq nd (sellB (-9) c nq) 20))), (xp, o2 r ti np nq nd), (r 1, .inl (cI, 5, .inl (fun k_ => nI (P 0 k_)))), (r 2, .inl (cI, 5, .inl (fun k_ => nI (P 1 k_)))), (r 3, .inl (cI, 5, .inl (fun k_ => nI (P 2 k_)))), (r 4, .inl (cI, 5, .inl (fun k_ => nI (P 3 k_)))), (r 5, .inl (cI, 5, .inl (fun k_ => nI (P 4 k_)))), (r 6, .inl (cI, 5, .inl (fun k_ => nI (P 5 k_))))]) rfl rfl rfl (fun _ => rfl) (fun r37 z37 hp37 => ?_)
    try dsimp only at hp37
    subst hp37
    refine g_is (ws2 := [(xo, o5 xt xp xd xn xa xc xs xk ks ch), (xn, .inr (3, [.ref xp, .ref xnc])), (xnc, .inl (cI, 20, .inl c)), (xa, .inr (3, [.ref xp, .ref xgc])), (xgc, .inl (cI, 20, .inl (passN P nq nd (sellB (-9) c nq) 20))), (xp, o2 r ti np nq nd), (r 1, .inl (cI, 5, .inl (fun k_ => nI (P 0 k_)))), (r 2, .inl (cI, 5, .inl (fun k_ => nI (P 1 k_)))), (r 3, .inl (cI, 5, .inl (fun k_ => nI (P 2 k_)))), (r 4, .inl (cI, 5, .inl (fun k_ => nI (P 3 k_)))), (r 5, .inl (cI, 5, .inl (fun k_ => nI (P 4 k_)))), (r 6, .inl (cI, 5, .inl (fun k_ => nI (P 5 k_))))]) (lv2 := [(0, .ref xo), (1, .int (nI k)), (2, .int (nI ub))]) (st2 := [.int (nI (deedsThat nd (passN P nq nd (sellB (-9) c nq) 20) (nI 1)))]) rfl rfl rfl ?_
    refine g_istore_n (lv' := [(0, .ref xo), (1, .int (nI k)), (2, .int (nI ub)), (3, .int (nI (deedsThat nd (passN P nq nd (sellB (-9) c nq) 20) (nI 1))))]) hC [1, 2, 3, 0] dX5_share_40 rfl (by decide) rfl ?_
    refine g_aload_n hC 0 dX5_share_41 rfl rfl ?_
    refine g_get (C := RX5) (T := TX5) (N := 10) (ci := 5) (v := .ref xa) hC hcw5 0 rfl rfl 4 (by decide) w2 (fun _ h => h) rfl dX5_share_42 ?_
    refine g_aload_n hC 0 dX5_share_45 rfl rfl ?_
    refine g_get (C := RX5) (T := TX5) (N := 10) (ci := 5) (v := .ref xn) hC hcw5 0 rfl rfl 3 (by decide) w3 (fun _ h => h) rfl dX5_share_46 ?_
    refine g_callVv (As := [.ref xn]) (rest := []) hC (c_X3_copy l D cI cZ xa xp xgc (passN P nq nd (sellB (-9) c nq) 20) xn xp xnc c) (cwV 1 hC.1.2.2.2.2 gX5_share_X3_copy rfl rfl rfl dV_X3_copy ⟨Nat.le_of_ble_eq_true rfl, Nat.le_of_ble_eq_true rfl⟩) rfl rfl rfl rfl (Nat.le_of_ble_eq_true rfl) dX5_share_49 ⟨Nat.le_of_ble_eq_true rfl, Nat.le_of_ble_eq_true rfl⟩ [3, 4, 1, 2] [0, 5, 6, 7, 8, 9, 10, 11] [0, 10, 11, 8, 9, 1, 2, 3, 4, 5, 6, 7] (fun (_ : Unit) => [(xo, o5 xt xp xd xn xa xc xs xk ks ch), (xn, .inr (3, [.ref xp, .ref xnc])), (xnc, .inl (cI, 20, .inl c)), (xa, .inr (3, [.ref xp, .ref xgc])), (xgc, .inl (cI, 20, .inl c)), (xp, o2 r ti np nq nd), (r 1, .inl (cI, 5, .inl (fun k_ => nI (P 0 k_)))), (r 2, .inl (cI, 5, .inl (fun k_ => nI (P 1 k_)))), (r 3, .inl (cI, 5, .inl (fun k_ => nI (P 2 k_)))), (r 4, .inl (cI, 5, .inl (fun k_ => nI (P 3 k_)))), (r 5, .inl (cI, 5, .inl (fun k_ => nI (P 4 k_)))), (r 6, .inl (cI, 5, .inl (fun k_ => nI (P 5 k_))))]) rfl rfl rfl (fun _ => rfl) (fun z49 hp49 => ?_)
    refine g_is (ws2 := [(xo, o5 xt xp xd xn xa xc xs xk ks ch), (xn, .inr (3, [.ref xp, .ref xnc])), (xnc, .inl (cI, 20, .inl c)), (xa, .inr (3, [.ref xp, .ref xgc])), (xgc, .inl (cI, 20, .inl c)), (xp, o2 r ti np nq nd), (r 1, .inl (cI, 5, .inl (fun k_ => nI (P 0 k_)))), (r 2, .inl (cI, 5, .inl (fun k_ => nI (P 1 k_)))), (r 3, .inl (cI, 5, .inl (fun k_ => nI (P 2 k_)))), (r 4, .inl (cI, 5, .inl (fun k_ => nI (P 3 k_)))), (r 5, .inl (cI, 5, .inl (fun k_ => nI (P 4 k_)))), (r 6, .inl (cI, 5, .inl (fun k_ => nI (P 5 k_))))]) (lv2 := [(0, .ref xo), (1, .int (nI k)), (2, .int (nI ub)), (3, .int (nI (deedsThat nd (passN P nq nd (sellB (-9) c nq) 20) (nI 1))))]) (st2 := []) rfl rfl rfl ?_
    refine g_aload_n hC 0 dX5_share_52 rfl rfl ?_
    refine g_get (C := RX5) (T := TX5) (N := 10) (ci := 5) (v := .ref xa) hC hcw5 0 rfl rfl 4 (by decide) w2 (fun _ h => h) rfl dX5_share_53 ?_
    refine g_iload_n hC 1 dX5_share_56 rfl rfl ?_
    refine g_callVv (As := [.int (nI k)]) (rest := []) hC (c_X3_sellAllBut l D cI cZ xa xp xgc c r ti np nq nd (nI k) hnq) (cwV 1 hC.1.2.2.2.2 gX5_share_X3_sellAllBut rfl rfl rfl dV_X3_sellAllBut ⟨Nat.le_of_ble_eq_true rfl, Nat.le_of_ble_eq_true rfl⟩) rfl rfl rfl rfl (Nat.le_of_ble_eq_true rfl) dX5_share_57 ⟨Nat.le_of_ble_eq_true rfl, Nat.le_of_ble_eq_true rfl⟩ [3, 4, 5] [0, 1, 2, 6, 7, 8, 9, 10, 11] [0, 1, 2, 9, 10, 11, 3, 4, 5, 6, 7, 8] (fun (_ : Unit) => [(xo, o5 xt xp xd xn xa xc xs xk ks ch), (xn, .inr (3, [.ref xp, .ref xnc])), (xnc, .inl (cI, 20, .inl c)), (xa, .inr (3, [.ref xp, .ref xgc])), (xgc, .inl (cI, 20, .inl (sellB (nI k) c nq))), (xp, o2 r ti np nq nd), (r 1, .inl (cI, 5, .inl (fun k_ => nI (P 0 k_)))), (r 2, .inl (cI, 5, .inl (fun k_ => nI (P 1 k_)))), (r 3, .inl (cI, 5, .inl (fun k_ => nI (P 2 k_)))), (r 4, .inl (cI, 5, .inl (fun k_ => nI (P 3 k_)))), (r 5, .inl (cI, 5, .inl (fun k_ => nI (P 4 k_)))), (r 6, .inl (cI, 5, .inl (fun k_ => nI (P 5 k_))))]) rfl rfl rfl (fun _ => rfl) (fun z57 hp57 => ?_)
    refine g_is (ws2 := [(xo, o5 xt xp xd xn xa xc xs xk ks ch), (xn, .inr (3, [.ref xp, .ref xnc])), (xnc, .inl (cI, 20, .inl c)), (xa, .inr (3, [.ref xp, .ref xgc])), (xgc, .inl (cI, 20, .inl (sellB (nI k) c nq))), (xp, o2 r ti np nq nd), (r 1, .inl (cI, 5, .inl (fun k_ => nI (P 0 k_)))), (r 2, .inl (cI, 5, .inl (fun k_ => nI (P 1 k_)))), (r 3, .inl (cI, 5, .inl (fun k_ => nI (P 2 k_)))), (r 4, .inl (cI, 5, .inl (fun k_ => nI (P 3 k_)))), (r 5, .inl (cI, 5, .inl (fun k_ => nI (P 4 k_)))), (r 6, .inl (cI, 5, .inl (fun k_ => nI (P 5 k_))))]) (lv2 := [(0, .ref xo), (1, .int (nI k)), (2, .int (nI ub)), (3, .int (nI (deedsThat nd (passN P nq nd (sellB (-9) c nq) 20) (nI 1))))]) (st2 := []) rfl rfl rfl ?_
    refine g_aload_n hC 0 dX5_share_60 rfl rfl ?_
    refine g_get (C := RX5) (T := TX5) (N := 10) (ci := 5) (v := .ref xa) hC hcw5 0 rfl rfl 4 (by decide) w2 (fun _ h => h) rfl dX5_share_61 ?_
    refine g_callVi (As := []) (rest := []) hC (c_X3_deedsInTheEnd l D cI cZ xa xp xgc (sellB (nI k) c nq) r ti np nq nd P (by first | assumption | omega)) (cwV 0 hC.1.2.2.2.2 gX5_share_X3_deedsInTheEnd rfl rfl rfl dV_X3_deedsInTheEnd ⟨Nat.le_of_ble_eq_true rfl, Nat.le_of_ble_eq_true rfl⟩) rfl rfl rfl rfl (Nat.le_of_ble_eq_true rfl) dX5_share_64 ⟨Nat.le_of_ble_eq_true rfl, Nat.le_of_ble_eq_true rfl⟩ [3, 4, 5, 6, 7, 8, 9, 10, 11] [0, 1, 2] [0, 1, 2, 3, 4, 5, 6, 7, 8, 9, 10, 11] (fun (_ : Unit) => [(xo, o5 xt xp xd xn xa xc xs xk ks ch), (xn, .inr (3, [.ref xp, .ref xnc])), (xnc, .inl (cI, 20, .inl c)), (xa, .inr (3, [.ref xp, .ref xgc])), (xgc, .inl (cI, 20, .inl (passN P nq nd (sellB (nI k) c nq) 20))), (xp, o2 r ti np nq nd), (r 1, .inl (cI, 5, .inl (fun k_ => nI (P 0 k_)))), (r 2, .inl (cI, 5, .inl (fun k_ => nI (P 1 k_)))), (r 3, .inl (cI, 5, .inl (fun k_ => nI (P 2 k_)))), (r 4, .inl (cI, 5, .inl (fun k_ => nI (P 3 k_)))), (r 5, .inl (cI, 5, .inl (fun k_ => nI (P 4 k_)))), (r 6, .inl (cI, 5, .inl (fun k_ => nI (P 5 k_))))]) rfl rfl rfl (fun _ => rfl) (fun r64 z64 hp64 => ?_)
    try dsimp only at hp64
    subst hp64
    refine g_is (ws2 := [(xo, o5 xt xp xd xn xa xc xs xk ks ch), (xn, .inr (3, [.ref xp, .ref xnc])), (xnc, .inl (cI, 20, .inl c)), (xa, .inr (3, [.ref xp, .ref xgc])), (xgc, .inl (cI, 20, .inl (passN P nq nd (sellB (nI k) c nq) 20))), (xp, o2 r ti np nq nd), (r 1, .inl (cI, 5, .inl (fun k_ => nI (P 0 k_)))), (r 2, .inl (cI, 5, .inl (fun k_ => nI (P 1 k_)))), (r 3, .inl (cI, 5, .inl (fun k_ => nI (P 2 k_)))), (r 4, .inl (cI, 5, .inl (fun k_ => nI (P 3 k_)))), (r 5, .inl (cI, 5, .inl (fun k_ => nI (P 4 k_)))), (r 6, .inl (cI, 5, .inl (fun k_ => nI (P 5 k_))))]) (lv2 := [(0, .ref xo), (1, .int (nI k)), (2, .int (nI ub)), (3, .int (nI (deedsThat nd (passN P nq nd (sellB (-9) c nq) 20) (nI 1))))]) (st2 := [.int (nI (deedsThat nd (passN P nq nd (sellB (nI k) c nq) 20) (nI 1)))]) rfl rfl rfl ?_
    refine g_callSip (As := [.int (nI (deedsThat nd (passN P nq nd (sellB (nI k) c nq) 20) (nI 1)))]) (rest := []) hC (nI (pop5 (deedsThat nd (passN P nq nd (sellB (nI k) c nq) 20) (nI 1)))) (c_J6_bitCount_0f7a4 l D cI cZ (deedsThat nd (passN P nq nd (sellB (nI k) c nq) 20) (nI 1)) (hl5 _)) (va_cwS 1 hC.1.2.2.2.2 gX5_share_J6_bitCount_0f7a4 rfl rfl rfl dS_J6_bitCount_0f7a4 ⟨Nat.le_of_ble_eq_true rfl, Nat.le_of_ble_eq_true rfl⟩) rfl rfl (Nat.le_of_ble_eq_true rfl) dX5_share_67 ⟨Nat.le_of_ble_eq_true rfl, Nat.le_of_ble_eq_true rfl⟩ [] rfl rfl ?_
    refine g_iload_n hC 3 dX5_share_70 rfl rfl ?_
    refine g_callSip (As := [.int (nI (deedsThat nd (passN P nq nd (sellB (-9) c nq) 20) (nI 1)))]) (rest := [.int (nI (pop5 (deedsThat nd (passN P nq nd (sellB (nI k) c nq) 20) (nI 1))))]) hC (nI (pop5 (deedsThat nd (passN P nq nd (sellB (-9) c nq) 20) (nI 1)))) (c_J6_bitCount_0f7a4 l D cI cZ (deedsThat nd (passN P nq nd (sellB (-9) c nq) 20) (nI 1)) (hl5 _)) (va_cwS 1 hC.1.2.2.2.2 gX5_share_J6_bitCount_0f7a4 rfl rfl rfl dS_J6_bitCount_0f7a4 ⟨Nat.le_of_ble_eq_true rfl, Nat.le_of_ble_eq_true rfl⟩) rfl rfl (Nat.le_of_ble_eq_true rfl) dX5_share_71 ⟨Nat.le_of_ble_eq_true rfl, Nat.le_of_ble_eq_true rfl⟩ [] rfl rfl ?_
    refine g_isub_n (a := (pop5 (deedsThat nd (passN P nq nd (sellB (nI k) c nq) 20) (nI 1)))) (b := (pop5 (deedsThat nd (passN P nq nd (sellB (-9) c nq) 20) (nI 1)))) hC (by exact hge _) dX5_share_74 ?_
    refine g_istore (lv' := [(0, .ref xo), (1, .int (nI k)), (2, .int (nI ub)), (3, .int (nI (deedsThat nd (passN P nq nd (sellB (-9) c nq) 20) (nI 1)))), (4, .int (nI (pop5 (deedsThat nd (passN P nq nd (sellB (nI k) c nq) 20) (nI 1)) - (pop5 (deedsThat nd (passN P nq nd (sellB (-9) c nq) 20) (nI 1))))))]) hC [1, 2, 3, 4, 0] dX5_share_75 (by decide) rfl ?_
    refine g_iload hC 4 dX5_share_77 rfl ?_
    refine g_iconst (v := nI 1) hC dX5_share_79 rfl ?_
    refine g_iload_n hC 2 dX5_share_80 rfl rfl ?_
    refine g_callSip (As := [.int (nI (pop5 (deedsThat nd (passN P nq nd (sellB (nI k) c nq) 20) (nI 1)) - (pop5 (deedsThat nd (passN P nq nd (sellB (-9) c nq) 20) (nI 1))))), .int (nI 1), .int (nI ub)]) (rest := []) hC (nI (fracR (pop5 (deedsThat nd (passN P nq nd (sellB (nI k) c nq) 20) (nI 1)) - (pop5 (deedsThat nd (passN P nq nd (sellB (-9) c nq) 20) (nI 1)))) 1 ub)) (c_X5_partOfFraction l D cI cZ (pop5 (deedsThat nd (passN P nq nd (sellB (nI k) c nq) 20) (nI 1)) - (pop5 (deedsThat nd (passN P nq nd (sellB (-9) c nq) 20) (nI 1)))) 1 ub (by have := pop5_le5 (deedsThat nd (passN P nq nd (sellB (nI k) c nq) 20) (nI 1)); omega) (by first | assumption | omega) (by first | assumption | omega) (by first | assumption | omega)) (va_cwS 3 hC.1.2.2.2.2 gX5_share_X5_partOfFraction rfl rfl rfl dS_X5_partOfFraction ⟨Nat.le_of_ble_eq_true rfl, Nat.le_of_ble_eq_true rfl⟩) rfl rfl (Nat.le_of_ble_eq_true rfl) dX5_share_81 ⟨Nat.le_of_ble_eq_true rfl, Nat.le_of_ble_eq_true rfl⟩ [] rfl rfl ?_
    subst hQ
    refine g_iret (v := nI (fracR (pop5 (deedsThat nd (passN P nq nd (sellB (nI k) c nq) 20) (nI 1)) - (pop5 (deedsThat nd (passN P nq nd (sellB (-9) c nq) 20) (nI 1)))) 1 ub)) hC (passN P nq nd (sellB (nI k) c nq) 20) hr ?_ rfl dX5_share_84
    rw [shareR, if_pos hin2]; rfl
  refine g_iconst (v := (-1)) hC dX5_share_11 rfl ?_
  subst hQ
  refine g_iret (v := -1) hC (g) hr ?_ rfl dX5_share_12
  rw [shareR, if_neg h8f]

abbrev rm_X5_rests : Room := { frames := 6, cells := 0, slots := 0, locals := 135 }
set_option maxRecDepth 100000 in
set_option maxHeartbeats 16000000 in
theorem c_X5_rests (l : Launch) (D : va_G) (cI cZ : ClassId) (xo : Nat) (xt : Nat) (xp : Nat) (xd : Nat) (xn : Nat) (xa : Nat) (xc : Nat) (xs : Nat) (xk : Nat) (ks : Int32) (ch : Int64) (xnc : Nat) (c : Nat → Int32) (xgc : Nat) (g : Nat → Int32) (r : Nat → Nat) (ti : Int32) (np : Nat) (nq : Nat) (nd : Nat) (P : Nat → Nat → Nat) (a : Int32) (b : Int32) (w : Int32) (hW : WFP np nq nd P) : CtI l yX5_rests wsX5_rests rm_X5_rests D cI cZ [.ref xo, .int a, .int b, .int w] [(xo, o5 xt xp xd xn xa xc xs xk ks ch), (xn, .inr (3, [.ref xp, .ref xnc])), (xnc, .inl (cI, 20, .inl c)), (xa, .inr (3, [.ref xp, .ref xgc])), (xgc, .inl (cI, 20, .inl g)), (xp, o2 r ti np nq nd), (r 1, .inl (cI, 5, .inl (fun k_ => nI (P 0 k_)))), (r 2, .inl (cI, 5, .inl (fun k_ => nI (P 1 k_)))), (r 3, .inl (cI, 5, .inl (fun k_ => nI (P 2 k_)))), (r 4, .inl (cI, 5, .inl (fun k_ => nI (P 3 k_)))), (r 5, .inl (cI, 5, .inl (fun k_ => nI (P 4 k_)))), (r 6, .inl (cI, 5, .inl (fun k_ => nI (P 5 k_))))] (fun (r : Int32) (g2 : (Nat → Int32)) => r = restsR np nq nd P c a b w) (fun (g2 : (Nat → Int32)) => [(xo, o5 xt xp xd xn xa xc xs xk ks ch), (xn, .inr (3, [.ref xp, .ref xnc])), (xnc, .inl (cI, 20, .inl c)), (xa, .inr (3, [.ref xp, .ref xgc])), (xgc, .inl (cI, 20, .inl g2)), (xp, o2 r ti np nq nd), (r 1, .inl (cI, 5, .inl (fun k_ => nI (P 0 k_)))), (r 2, .inl (cI, 5, .inl (fun k_ => nI (P 1 k_)))), (r 3, .inl (cI, 5, .inl (fun k_ => nI (P 2 k_)))), (r 4, .inl (cI, 5, .inl (fun k_ => nI (P 3 k_)))), (r 5, .inl (cI, 5, .inl (fun k_ => nI (P 4 k_)))), (r 6, .inl (cI, 5, .inl (fun k_ => nI (P 5 k_))))]) 0 0 := by
  refine g_startI (ret := (some .int)) (own := RX5) (lv0 := [(0, .ref xo), (1, .int a), (2, .int b), (3, .int w)]) (by decide) rfl rfl (Nat.le_of_ble_eq_true rfl) rfl ?_
  intro p e s m args below meth cd A Q hin hr hQ hC
  have hcw5 : ∀ w ∈ wsX50, w ∈ wsX5_rests := fun _ h => List.mem_cons_of_mem _ (List.mem_append_left _ (List.mem_append_left _ (List.mem_append_right _ h)))
  have w1 := hC.1.2.2.2.2 (.fieldLink "PluckBroker" 19 "PluckBroker" "plan" "LPluckBroker$Plan;") (List.mem_of_getElem? (i := 1) rfl)
  obtain ⟨⟨hnp, hnq, hnd⟩, hq4, hd5⟩ := id hW
  refine g_aload_n hC 0 dX5_rests_0 rfl rfl ?_
  refine g_get (C := RX5) (T := TX5) (N := 10) (ci := 5) (v := .ref xp) hC hcw5 0 rfl rfl 1 (by decide) w1 (fun _ h => h) rfl dX5_rests_1 ?_
  refine g_iload_n hC 1 dX5_rests_4 rfl rfl ?_
  refine g_callVip (As := [.int a]) (rest := []) hC (bI (inR a np)) (c_X2_hasPerson l D cI cZ xp r ti np nq nd a (by omega)) (cwV 1 hC.1.2.2.2.2 gX5_rests_X2_hasPerson rfl rfl rfl dV_X2_hasPerson ⟨Nat.le_of_ble_eq_true rfl, Nat.le_of_ble_eq_true rfl⟩) rfl rfl rfl rfl (Nat.le_of_ble_eq_true rfl) dX5_rests_5 ⟨Nat.le_of_ble_eq_true rfl, Nat.le_of_ble_eq_true rfl⟩ [5] rfl rfl ?_
  refine g_if_eq_b hC 22 dX5_rests_8 (by decide) (fun h8t => ?_) (fun h8f => ?_)
  · refine g_iconst (v := (-1)) hC dX5_rests_22 rfl ?_
    subst hQ
    refine g_iret (v := -1) hC (g) hr ?_ rfl dX5_rests_23
    rw [restsR, if_neg (fun q => h8t q.1)]
  obtain ⟨k, hk, rfl⟩ := inR_n (by omega) h8f
  have hin1 := inR_k (n := np) (by omega) hk
  have hKk : K (nI k) = k := K_n (by omega)
  refine g_aload_n hC 0 dX5_rests_11 rfl rfl ?_
  refine g_get (C := RX5) (T := TX5) (N := 10) (ci := 5) (v := .ref xp) hC hcw5 0 rfl rfl 1 (by decide) w1 (fun _ h => h) rfl dX5_rests_12 ?_
  refine g_iload_n hC 2 dX5_rests_15 rfl rfl ?_
  refine g_callVip (As := [.int b]) (rest := []) hC (bI (inR b np)) (c_X2_hasPerson l D cI cZ xp r ti np nq nd b (by omega)) (cwV 1 hC.1.2.2.2.2 gX5_rests_X2_hasPerson rfl rfl rfl dV_X2_hasPerson ⟨Nat.le_of_ble_eq_true rfl, Nat.le_of_ble_eq_true rfl⟩) rfl rfl rfl rfl (Nat.le_of_ble_eq_true rfl) dX5_rests_16 ⟨Nat.le_of_ble_eq_true rfl, Nat.le_of_ble_eq_true rfl⟩ [5] rfl rfl ?_
  refine g_if_ne_b hC 24 dX5_rests_19 (by decide) (fun h19t => ?_) (fun h19f => ?_)
  · obtain ⟨k2, hk2, rfl⟩ := inR_n (by omega) h19t
    have hin2 := inR_k (n := np) (by omega) hk2
    have hKk2 : K (nI k2) = k2 := K_n (by omega)
    refine g_iload_n hC 1 dX5_rests_24 rfl rfl ?_
    refine g_iload_n hC 2 dX5_rests_25 rfl rfl ?_
    refine g_icmp_eq_n (a := k) (b := k2) hC (by omega) (by omega) 36 dX5_rests_26 (by decide) (fun h26t => ?_) (fun h26f => ?_)
    · refine g_bipush (v := (-2)) hC dX5_rests_36 (by decide +kernel) ?_
      subst hQ
      refine g_iret (v := -2) hC (g) hr ?_ rfl dX5_rests_38
      rw [restsR, if_pos ⟨hin1, hin2⟩, if_neg (fun q => q.1 (by rw [h26t]))]
    refine g_iload_n hC 3 dX5_rests_29 rfl rfl ?_
    refine g_callSip (As := [.int w]) (rest := []) hC (bI (¬ okC w)) (c_X5_isNoChoice l D cI cZ w) (va_cwS 1 hC.1.2.2.2.2 gX5_rests_X5_isNoChoice rfl rfl rfl dS_X5_isNoChoice ⟨Nat.le_of_ble_eq_true rfl, Nat.le_of_ble_eq_true rfl⟩) rfl rfl (Nat.le_of_ble_eq_true rfl) dX5_rests_30 ⟨Nat.le_of_ble_eq_true rfl, Nat.le_of_ble_eq_true rfl⟩ [] rfl rfl ?_
    refine g_if_eq_b hC 39 dX5_rests_33 (by decide) (fun h33t => ?_) (fun h33f => ?_)
    · obtain ⟨wn, hwn, rfl⟩ := ok_n (M := 1) (by decide) (Decidable.not_not.mp h33t)
      have okw : okC (nI wn) := ok_k (M := 1) (by decide) hwn
      refine g_iconst (v := nI 0) hC dX5_rests_39 rfl ?_
      refine g_istore (lv' := [(0, .ref xo), (1, .int (nI k)), (2, .int (nI k2)), (3, .int (nI wn)), (4, .int (nI 0))]) hC [1, 2, 3, 4, 0] dX5_rests_40 (by decide) rfl ?_
      refine g_bipush (v := (-9)) hC dX5_rests_42 (by decide +kernel) ?_
      refine g_istore (lv' := [(0, .ref xo), (1, .int (nI k)), (2, .int (nI k2)), (3, .int (nI wn)), (4, .int (nI 0)), (5, .int (-9))]) hC [1, 2, 3, 4, 5, 0] dX5_rests_44 (by decide) rfl ?_
      refine g_iconst (v := nI 0) hC dX5_rests_46 rfl ?_
      refine g_istore (lv' := [(0, .ref xo), (1, .int (nI k)), (2, .int (nI k2)), (3, .int (nI wn)), (4, .int (nI 0)), (5, .int (-9)), (6, .int (nI 0))]) hC [1, 2, 3, 4, 5, 6, 0] dX5_rests_47 (by decide) rfl ?_
      have L49 : ∀ (n : Nat) (i : Nat) (fo : Nat) (x : Int32) (gg : Nat → Int32), (i ≤ 4) → (fo ≤ i) → (fo = reN P nq nd c k k2 i) → (x = reF P nq nd c k k2 i) → 4 - i < n → G p l e rm_X5_rests s m args below meth cd D A 0 0 Q 9 [(xo, o5 xt xp xd xn xa xc xs xk ks ch), (xn, .inr (3, [.ref xp, .ref xnc])), (xnc, .inl (cI, 20, .inl c)), (xa, .inr (3, [.ref xp, .ref xgc])), (xgc, .inl (cI, 20, .inl gg)), (xp, o2 r ti np nq nd), (r 1, .inl (cI, 5, .inl (fun k_ => nI (P 0 k_)))), (r 2, .inl (cI, 5, .inl (fun k_ => nI (P 1 k_)))), (r 3, .inl (cI, 5, .inl (fun k_ => nI (P 2 k_)))), (r 4, .inl (cI, 5, .inl (fun k_ => nI (P 3 k_)))), (r 5, .inl (cI, 5, .inl (fun k_ => nI (P 4 k_)))), (r 6, .inl (cI, 5, .inl (fun k_ => nI (P 5 k_))))] 49 [(0, .ref xo), (1, .int (nI k)), (2, .int (nI k2)), (3, .int (nI wn)), (4, .int (nI fo)), (5, .int x), (6, .int (nI i))] [] := by
        intro n
        induction n with
        | zero => intro i fo x gg hi hfo hf hx hn; exact absurd hn (Nat.not_lt_zero _)
        | succ n ih49 =>
          intro i fo x gg hi hfo hf hx hn
          refine g_iload hC 6 dX5_rests_49 rfl ?_
          refine g_iconst (v := nI 4) hC dX5_rests_51 rfl ?_
          refine g_icmp_ge_n (a := i) (b := 4) hC (by omega) (by omega) 158 dX5_rests_52 (by decide) (fun h52t => ?_) (fun h52f => ?_)
          · have ei : i = 4 := by omega
            rw [ei] at hf hx
            refine g_iload_n hC 3 dX5_rests_158 rfl rfl ?_
            refine g_if_ne_n (a := wn) hC (by omega) 167 dX5_rests_159 (by decide) (fun h159t => ?_) (fun h159f => ?_)
            · refine g_iload hC 5 dX5_rests_167 rfl ?_
              subst hQ
              refine g_iret (v := x) hC (gg) hr ?_ rfl dX5_rests_169
              rw [restsR, if_pos ⟨hin1, hin2⟩, if_pos ⟨fun q => h26f ((nI_eq (by omega) (by omega)).mp q), okw⟩, hKk, hKk2, if_neg (fun q => h159t ((nI_eq (by omega) (by decide)).mp q))]; exact hx
            refine g_iload hC 4 dX5_rests_162 rfl ?_
            refine g_goto hC 169 dX5_rests_164 (by decide) ?_
            subst hQ
            refine g_iret (v := nI fo) hC (gg) hr ?_ rfl dX5_rests_169
            rw [restsR, if_pos ⟨hin1, hin2⟩, if_pos ⟨fun q => h26f ((nI_eq (by omega) (by omega)).mp q), okw⟩, hKk, hKk2, if_pos (by rw [h159f])]; rw [hf]
          refine g_aload_n hC 0 dX5_rests_55 rfl rfl ?_
          refine g_iload_n hC 1 dX5_rests_56 rfl rfl ?_
          refine g_iload_n hC 1 dX5_rests_57 rfl rfl ?_
          refine g_iload_n hC 2 dX5_rests_58 rfl rfl ?_
          refine g_iload hC 6 dX5_rests_59 rfl ?_
          refine g_callVi (As := [.int (nI k), .int (nI k), .int (nI k2), .int (nI i)]) (rest := []) hC (c_X5_gain l D cI cZ xo xt xp xd xn xa xc xs xk ks ch xnc c xgc gg r ti np nq nd P k k k2 i (by first | assumption | omega) (by first | assumption | omega) (by first | assumption | omega) (by first | assumption | omega) (by omega)) (cwV 4 hC.1.2.2.2.2 gX5_rests_X5_gain rfl rfl rfl dV_X5_gain ⟨Nat.le_of_ble_eq_true rfl, Nat.le_of_ble_eq_true rfl⟩) rfl rfl rfl rfl (Nat.le_of_ble_eq_true rfl) dX5_rests_61 ⟨Nat.le_of_ble_eq_true rfl, Nat.le_of_ble_eq_true rfl⟩ [0, 1, 2, 3, 4, 5, 6, 7, 8, 9, 10, 11] [] [0, 1, 2, 3, 4, 5, 6, 7, 8, 9, 10, 11] (fun (g2_1 : Nat → Int32) => [(xo, o5 xt xp xd xn xa xc xs xk ks ch), (xn, .inr (3, [.ref xp, .ref xnc])), (xnc, .inl (cI, 20, .inl c)), (xa, .inr (3, [.ref xp, .ref xgc])), (xgc, .inl (cI, 20, .inl g2_1)), (xp, o2 r ti np nq nd), (r 1, .inl (cI, 5, .inl (fun k_ => nI (P 0 k_)))), (r 2, .inl (cI, 5, .inl (fun k_ => nI (P 1 k_)))), (r 3, .inl (cI, 5, .inl (fun k_ => nI (P 2 k_)))), (r 4, .inl (cI, 5, .inl (fun k_ => nI (P 3 k_)))), (r 5, .inl (cI, 5, .inl (fun k_ => nI (P 4 k_)))), (r 6, .inl (cI, 5, .inl (fun k_ => nI (P 5 k_))))]) rfl rfl rfl (fun _ => rfl) (fun r61 z61 hp61 => ?_)
          obtain ⟨g2_1, rfl⟩ : ∃ y, y = z61 := ⟨_, rfl⟩
          try dsimp only at hp61
          refine g_is (ws2 := [(xo, o5 xt xp xd xn xa xc xs xk ks ch), (xn, .inr (3, [.ref xp, .ref xnc])), (xnc, .inl (cI, 20, .inl c)), (xa, .inr (3, [.ref xp, .ref xgc])), (xgc, .inl (cI, 20, .inl g2_1)), (xp, o2 r ti np nq nd), (r 1, .inl (cI, 5, .inl (fun k_ => nI (P 0 k_)))), (r 2, .inl (cI, 5, .inl (fun k_ => nI (P 1 k_)))), (r 3, .inl (cI, 5, .inl (fun k_ => nI (P 2 k_)))), (r 4, .inl (cI, 5, .inl (fun k_ => nI (P 3 k_)))), (r 5, .inl (cI, 5, .inl (fun k_ => nI (P 4 k_)))), (r 6, .inl (cI, 5, .inl (fun k_ => nI (P 5 k_))))]) (lv2 := [(0, .ref xo), (1, .int (nI k)), (2, .int (nI k2)), (3, .int (nI wn)), (4, .int (nI fo)), (5, .int x), (6, .int (nI i))]) (st2 := [.int r61]) rfl rfl rfl ?_
          refine g_top (y := gainF P nq nd c k k k2 i) hp61 ?_
          refine g_aload_n hC 0 dX5_rests_64 rfl rfl ?_
          refine g_iload_n hC 1 dX5_rests_65 rfl rfl ?_
          refine g_iload_n hC 1 dX5_rests_66 rfl rfl ?_
          refine g_iload_n hC 2 dX5_rests_67 rfl rfl ?_
          refine g_iload hC 6 dX5_rests_68 rfl ?_
          refine g_iconst (v := nI 2) hC dX5_rests_70 rfl ?_
          refine g_ixor_n (a := i) (b := 2) hC dX5_rests_71 ?_
          refine g_callVi (As := [.int (nI k), .int (nI k), .int (nI k2), .int (nI (i ^^^ 2))]) (rest := [.int (gainF P nq nd c k k k2 i)]) hC (c_X5_gain l D cI cZ xo xt xp xd xn xa xc xs xk ks ch xnc c xgc g2_1 r ti np nq nd P k k k2 (i ^^^ 2) (by first | assumption | omega) (by first | assumption | omega) (by first | assumption | omega) (by first | assumption | omega) (xor4 (by omega) (by decide))) (cwV 4 hC.1.2.2.2.2 gX5_rests_X5_gain rfl rfl rfl dV_X5_gain ⟨Nat.le_of_ble_eq_true rfl, Nat.le_of_ble_eq_true rfl⟩) rfl rfl rfl rfl (Nat.le_of_ble_eq_true rfl) dX5_rests_72 ⟨Nat.le_of_ble_eq_true rfl, Nat.le_of_ble_eq_true rfl⟩ [0, 1, 2, 3, 4, 5, 6, 7, 8, 9, 10, 11] [] [0, 1, 2, 3, 4, 5, 6, 7, 8, 9, 10, 11] (fun (g2_2 : Nat → Int32) => [(xo, o5 xt xp xd xn xa xc xs xk ks ch), (xn, .inr (3, [.ref xp, .ref xnc])), (xnc, .inl (cI, 20, .inl c)), (xa, .inr (3, [.ref xp, .ref xgc])), (xgc, .inl (cI, 20, .inl g2_2)), (xp, o2 r ti np nq nd), (r 1, .inl (cI, 5, .inl (fun k_ => nI (P 0 k_)))), (r 2, .inl (cI, 5, .inl (fun k_ => nI (P 1 k_)))), (r 3, .inl (cI, 5, .inl (fun k_ => nI (P 2 k_)))), (r 4, .inl (cI, 5, .inl (fun k_ => nI (P 3 k_)))), (r 5, .inl (cI, 5, .inl (fun k_ => nI (P 4 k_)))), (r 6, .inl (cI, 5, .inl (fun k_ => nI (P 5 k_))))]) rfl rfl rfl (fun _ => rfl) (fun r72 z72 hp72 => ?_)
          obtain ⟨g2_2, rfl⟩ : ∃ y, y = z72 := ⟨_, rfl⟩
          try dsimp only at hp72
          refine g_is (ws2 := [(xo, o5 xt xp xd xn xa xc xs xk ks ch), (xn, .inr (3, [.ref xp, .ref xnc])), (xnc, .inl (cI, 20, .inl c)), (xa, .inr (3, [.ref xp, .ref xgc])), (xgc, .inl (cI, 20, .inl g2_2)), (xp, o2 r ti np nq nd), (r 1, .inl (cI, 5, .inl (fun k_ => nI (P 0 k_)))), (r 2, .inl (cI, 5, .inl (fun k_ => nI (P 1 k_)))), (r 3, .inl (cI, 5, .inl (fun k_ => nI (P 2 k_)))), (r 4, .inl (cI, 5, .inl (fun k_ => nI (P 3 k_)))), (r 5, .inl (cI, 5, .inl (fun k_ => nI (P 4 k_)))), (r 6, .inl (cI, 5, .inl (fun k_ => nI (P 5 k_))))]) (lv2 := [(0, .ref xo), (1, .int (nI k)), (2, .int (nI k2)), (3, .int (nI wn)), (4, .int (nI fo)), (5, .int x), (6, .int (nI i))]) (st2 := [.int r72, .int (gainF P nq nd c k k k2 i)]) rfl rfl rfl ?_
          refine g_top (y := gainF P nq nd c k k k2 (i ^^^ 2)) hp72 ?_
          refine g_icmp_lt hC 82 dX5_rests_75 (by decide) (fun h75t => ?_) (fun h75f => ?_)
          · refine g_iconst (v := nI 0) hC dX5_rests_82 rfl ?_
            refine g_istore (lv' := [(0, .ref xo), (1, .int (nI k)), (2, .int (nI k2)), (3, .int (nI wn)), (4, .int (nI fo)), (5, .int x), (6, .int (nI i)), (7, .int (nI 0))]) hC [1, 2, 3, 4, 5, 6, 7, 0] dX5_rests_83 (by decide) rfl ?_
            refine g_aload_n hC 0 dX5_rests_85 rfl rfl ?_
            refine g_iload_n hC 2 dX5_rests_86 rfl rfl ?_
            refine g_iload_n hC 1 dX5_rests_87 rfl rfl ?_
            refine g_iload_n hC 2 dX5_rests_88 rfl rfl ?_
            refine g_iload hC 6 dX5_rests_89 rfl ?_
            refine g_callVi (As := [.int (nI k2), .int (nI k), .int (nI k2), .int (nI i)]) (rest := []) hC (c_X5_gain l D cI cZ xo xt xp xd xn xa xc xs xk ks ch xnc c xgc g2_2 r ti np nq nd P k2 k k2 i (by first | assumption | omega) (by first | assumption | omega) (by first | assumption | omega) (by first | assumption | omega) (by omega)) (cwV 4 hC.1.2.2.2.2 gX5_rests_X5_gain rfl rfl rfl dV_X5_gain ⟨Nat.le_of_ble_eq_true rfl, Nat.le_of_ble_eq_true rfl⟩) rfl rfl rfl rfl (Nat.le_of_ble_eq_true rfl) dX5_rests_91 ⟨Nat.le_of_ble_eq_true rfl, Nat.le_of_ble_eq_true rfl⟩ [0, 1, 2, 3, 4, 5, 6, 7, 8, 9, 10, 11] [] [0, 1, 2, 3, 4, 5, 6, 7, 8, 9, 10, 11] (fun (g2_3 : Nat → Int32) => [(xo, o5 xt xp xd xn xa xc xs xk ks ch), (xn, .inr (3, [.ref xp, .ref xnc])), (xnc, .inl (cI, 20, .inl c)), (xa, .inr (3, [.ref xp, .ref xgc])), (xgc, .inl (cI, 20, .inl g2_3)), (xp, o2 r ti np nq nd), (r 1, .inl (cI, 5, .inl (fun k_ => nI (P 0 k_)))), (r 2, .inl (cI, 5, .inl (fun k_ => nI (P 1 k_)))), (r 3, .inl (cI, 5, .inl (fun k_ => nI (P 2 k_)))), (r 4, .inl (cI, 5, .inl (fun k_ => nI (P 3 k_)))), (r 5, .inl (cI, 5, .inl (fun k_ => nI (P 4 k_)))), (r 6, .inl (cI, 5, .inl (fun k_ => nI (P 5 k_))))]) rfl rfl rfl (fun _ => rfl) (fun r91 z91 hp91 => ?_)
            obtain ⟨g2_3, rfl⟩ : ∃ y, y = z91 := ⟨_, rfl⟩
            try dsimp only at hp91
            refine g_is (ws2 := [(xo, o5 xt xp xd xn xa xc xs xk ks ch), (xn, .inr (3, [.ref xp, .ref xnc])), (xnc, .inl (cI, 20, .inl c)), (xa, .inr (3, [.ref xp, .ref xgc])), (xgc, .inl (cI, 20, .inl g2_3)), (xp, o2 r ti np nq nd), (r 1, .inl (cI, 5, .inl (fun k_ => nI (P 0 k_)))), (r 2, .inl (cI, 5, .inl (fun k_ => nI (P 1 k_)))), (r 3, .inl (cI, 5, .inl (fun k_ => nI (P 2 k_)))), (r 4, .inl (cI, 5, .inl (fun k_ => nI (P 3 k_)))), (r 5, .inl (cI, 5, .inl (fun k_ => nI (P 4 k_)))), (r 6, .inl (cI, 5, .inl (fun k_ => nI (P 5 k_))))]) (lv2 := [(0, .ref xo), (1, .int (nI k)), (2, .int (nI k2)), (3, .int (nI wn)), (4, .int (nI fo)), (5, .int x), (6, .int (nI i)), (7, .int (nI 0))]) (st2 := [.int r91]) rfl rfl rfl ?_
            refine g_top (y := gainF P nq nd c k2 k k2 i) hp91 ?_
            refine g_aload_n hC 0 dX5_rests_94 rfl rfl ?_
            refine g_iload_n hC 2 dX5_rests_95 rfl rfl ?_
            refine g_iload_n hC 1 dX5_rests_96 rfl rfl ?_
            refine g_iload_n hC 2 dX5_rests_97 rfl rfl ?_
            refine g_iload hC 6 dX5_rests_98 rfl ?_
            refine g_iconst (v := nI 1) hC dX5_rests_100 rfl ?_
            refine g_ixor_n (a := i) (b := 1) hC dX5_rests_101 ?_
            refine g_callVi (As := [.int (nI k2), .int (nI k), .int (nI k2), .int (nI (i ^^^ 1))]) (rest := [.int (gainF P nq nd c k2 k k2 i)]) hC (c_X5_gain l D cI cZ xo xt xp xd xn xa xc xs xk ks ch xnc c xgc g2_3 r ti np nq nd P k2 k k2 (i ^^^ 1) (by first | assumption | omega) (by first | assumption | omega) (by first | assumption | omega) (by first | assumption | omega) (xor4 (by omega) (by decide))) (cwV 4 hC.1.2.2.2.2 gX5_rests_X5_gain rfl rfl rfl dV_X5_gain ⟨Nat.le_of_ble_eq_true rfl, Nat.le_of_ble_eq_true rfl⟩) rfl rfl rfl rfl (Nat.le_of_ble_eq_true rfl) dX5_rests_102 ⟨Nat.le_of_ble_eq_true rfl, Nat.le_of_ble_eq_true rfl⟩ [0, 1, 2, 3, 4, 5, 6, 7, 8, 9, 10, 11] [] [0, 1, 2, 3, 4, 5, 6, 7, 8, 9, 10, 11] (fun (g2_4 : Nat → Int32) => [(xo, o5 xt xp xd xn xa xc xs xk ks ch), (xn, .inr (3, [.ref xp, .ref xnc])), (xnc, .inl (cI, 20, .inl c)), (xa, .inr (3, [.ref xp, .ref xgc])), (xgc, .inl (cI, 20, .inl g2_4)), (xp, o2 r ti np nq nd), (r 1, .inl (cI, 5, .inl (fun k_ => nI (P 0 k_)))), (r 2, .inl (cI, 5, .inl (fun k_ => nI (P 1 k_)))), (r 3, .inl (cI, 5, .inl (fun k_ => nI (P 2 k_)))), (r 4, .inl (cI, 5, .inl (fun k_ => nI (P 3 k_)))), (r 5, .inl (cI, 5, .inl (fun k_ => nI (P 4 k_)))), (r 6, .inl (cI, 5, .inl (fun k_ => nI (P 5 k_))))]) rfl rfl rfl (fun _ => rfl) (fun r102 z102 hp102 => ?_)
            obtain ⟨g2_4, rfl⟩ : ∃ y, y = z102 := ⟨_, rfl⟩
            try dsimp only at hp102
            refine g_is (ws2 := [(xo, o5 xt xp xd xn xa xc xs xk ks ch), (xn, .inr (3, [.ref xp, .ref xnc])), (xnc, .inl (cI, 20, .inl c)), (xa, .inr (3, [.ref xp, .ref xgc])), (xgc, .inl (cI, 20, .inl g2_4)), (xp, o2 r ti np nq nd), (r 1, .inl (cI, 5, .inl (fun k_ => nI (P 0 k_)))), (r 2, .inl (cI, 5, .inl (fun k_ => nI (P 1 k_)))), (r 3, .inl (cI, 5, .inl (fun k_ => nI (P 2 k_)))), (r 4, .inl (cI, 5, .inl (fun k_ => nI (P 3 k_)))), (r 5, .inl (cI, 5, .inl (fun k_ => nI (P 4 k_)))), (r 6, .inl (cI, 5, .inl (fun k_ => nI (P 5 k_))))]) (lv2 := [(0, .ref xo), (1, .int (nI k)), (2, .int (nI k2)), (3, .int (nI wn)), (4, .int (nI fo)), (5, .int x), (6, .int (nI i)), (7, .int (nI 0))]) (st2 := [.int r102, .int (gainF P nq nd c k2 k k2 i)]) rfl rfl rfl ?_
            refine g_top (y := gainF P nq nd c k2 k k2 (i ^^^ 1)) hp102 ?_
            refine g_icmp_lt hC 112 dX5_rests_105 (by decide) (fun h105t => ?_) (fun h105f => ?_)
            · refine g_iconst (v := nI 0) hC dX5_rests_112 rfl ?_
              refine g_istore (lv' := [(0, .ref xo), (1, .int (nI k)), (2, .int (nI k2)), (3, .int (nI wn)), (4, .int (nI fo)), (5, .int x), (6, .int (nI i)), (7, .int (nI 0)), (8, .int (nI 0))]) hC [1, 2, 3, 4, 5, 6, 7, 8, 0] dX5_rests_113 (by decide) rfl ?_
              refine g_iload hC 7 dX5_rests_115 rfl ?_
              refine g_if_eq_n (a := 0) hC (by omega) 152 dX5_rests_117 (by decide) (fun _ => ?_) (fun q => absurd q (by decide))
              refine g_iinc (v := nI (i + 1)) (lv' := [(0, .ref xo), (1, .int (nI k)), (2, .int (nI k2)), (3, .int (nI wn)), (4, .int (nI fo)), (5, .int x), (6, .int (nI (i + 1))), (7, .int (nI 0)), (8, .int (nI 0))]) hC 6 [1, 2, 3, 4, 5, 6, 0, 7, 8] dX5_rests_152 rfl (nI_add _ 1) (by decide) rfl ?_
              refine g_goto hC 49 dX5_rests_155 (by decide) ?_
              refine g_lv [0, 1, 2, 3, 4, 5, 6] (lv2 := [(0, .ref xo), (1, .int (nI k)), (2, .int (nI k2)), (3, .int (nI wn)), (4, .int (nI fo)), (5, .int x), (6, .int (nI (i + 1)))]) rfl ?_
              refine ih49 (i + 1) fo x g2_4 ?_ ?_ ?_ ?_ ?_
              · omega
              · omega
              · show _ = reN P nq nd c k k2 i + (if reOK P nq nd c k k2 i then 1 else 0)
                rw [← hf, if_neg (fun w => absurd w.1 (Int32.not_le.mpr h75t))]; rfl --]
              · show _ = (if reOK P nq nd c k k2 i ∧ reN P nq nd c k k2 i = 0 then nI (10 * (i / 2) + (i &&& 1)) else reF P nq nd c k k2 i)
                rw [← hf, ← hx]
                rw [if_neg (fun w => (fun w => absurd w.1 (Int32.not_le.mpr h75t)) w.1)]
              · omega
            refine g_iconst (v := nI 1) hC dX5_rests_108 rfl ?_
            refine g_goto hC 113 dX5_rests_109 (by decide) ?_
            refine g_istore (lv' := [(0, .ref xo), (1, .int (nI k)), (2, .int (nI k2)), (3, .int (nI wn)), (4, .int (nI fo)), (5, .int x), (6, .int (nI i)), (7, .int (nI 0)), (8, .int (nI 1))]) hC [1, 2, 3, 4, 5, 6, 7, 8, 0] dX5_rests_113 (by decide) rfl ?_
            refine g_iload hC 7 dX5_rests_115 rfl ?_
            refine g_if_eq_n (a := 0) hC (by omega) 152 dX5_rests_117 (by decide) (fun _ => ?_) (fun q => absurd q (by decide))
            refine g_iinc (v := nI (i + 1)) (lv' := [(0, .ref xo), (1, .int (nI k)), (2, .int (nI k2)), (3, .int (nI wn)), (4, .int (nI fo)), (5, .int x), (6, .int (nI (i + 1))), (7, .int (nI 0)), (8, .int (nI 1))]) hC 6 [1, 2, 3, 4, 5, 6, 0, 7, 8] dX5_rests_152 rfl (nI_add _ 1) (by decide) rfl ?_
            refine g_goto hC 49 dX5_rests_155 (by decide) ?_
            refine g_lv [0, 1, 2, 3, 4, 5, 6] (lv2 := [(0, .ref xo), (1, .int (nI k)), (2, .int (nI k2)), (3, .int (nI wn)), (4, .int (nI fo)), (5, .int x), (6, .int (nI (i + 1)))]) rfl ?_
            refine ih49 (i + 1) fo x g2_4 ?_ ?_ ?_ ?_ ?_
            · omega
            · omega
            · show _ = reN P nq nd c k k2 i + (if reOK P nq nd c k k2 i then 1 else 0)
              rw [← hf, if_neg (fun w => absurd w.1 (Int32.not_le.mpr h75t))]; rfl --]
            · show _ = (if reOK P nq nd c k k2 i ∧ reN P nq nd c k k2 i = 0 then nI (10 * (i / 2) + (i &&& 1)) else reF P nq nd c k k2 i)
              rw [← hf, ← hx]
              rw [if_neg (fun w => (fun w => absurd w.1 (Int32.not_le.mpr h75t)) w.1)]
            · omega
          refine g_iconst (v := nI 1) hC dX5_rests_78 rfl ?_
          refine g_goto hC 83 dX5_rests_79 (by decide) ?_
          refine g_istore (lv' := [(0, .ref xo), (1, .int (nI k)), (2, .int (nI k2)), (3, .int (nI wn)), (4, .int (nI fo)), (5, .int x), (6, .int (nI i)), (7, .int (nI 1))]) hC [1, 2, 3, 4, 5, 6, 7, 0] dX5_rests_83 (by decide) rfl ?_
          refine g_aload_n hC 0 dX5_rests_85 rfl rfl ?_
          refine g_iload_n hC 2 dX5_rests_86 rfl rfl ?_
          refine g_iload_n hC 1 dX5_rests_87 rfl rfl ?_
          refine g_iload_n hC 2 dX5_rests_88 rfl rfl ?_
          refine g_iload hC 6 dX5_rests_89 rfl ?_
          refine g_callVi (As := [.int (nI k2), .int (nI k), .int (nI k2), .int (nI i)]) (rest := []) hC (c_X5_gain l D cI cZ xo xt xp xd xn xa xc xs xk ks ch xnc c xgc g2_2 r ti np nq nd P k2 k k2 i (by first | assumption | omega) (by first | assumption | omega) (by first | assumption | omega) (by first | assumption | omega) (by omega)) (cwV 4 hC.1.2.2.2.2 gX5_rests_X5_gain rfl rfl rfl dV_X5_gain ⟨Nat.le_of_ble_eq_true rfl, Nat.le_of_ble_eq_true rfl⟩) rfl rfl rfl rfl (Nat.le_of_ble_eq_true rfl) dX5_rests_91 ⟨Nat.le_of_ble_eq_true rfl, Nat.le_of_ble_eq_true rfl⟩ [0, 1, 2, 3, 4, 5, 6, 7, 8, 9, 10, 11] [] [0, 1, 2, 3, 4, 5, 6, 7, 8, 9, 10, 11] (fun (g2_5 : Nat → Int32) => [(xo, o5 xt xp xd xn xa xc xs xk ks ch), (xn, .inr (3, [.ref xp, .ref xnc])), (xnc, .inl (cI, 20, .inl c)), (xa, .inr (3, [.ref xp, .ref xgc])), (xgc, .inl (cI, 20, .inl g2_5)), (xp, o2 r ti np nq nd), (r 1, .inl (cI, 5, .inl (fun k_ => nI (P 0 k_)))), (r 2, .inl (cI, 5, .inl (fun k_ => nI (P 1 k_)))), (r 3, .inl (cI, 5, .inl (fun k_ => nI (P 2 k_)))), (r 4, .inl (cI, 5, .inl (fun k_ => nI (P 3 k_)))), (r 5, .inl (cI, 5, .inl (fun k_ => nI (P 4 k_)))), (r 6, .inl (cI, 5, .inl (fun k_ => nI (P 5 k_))))]) rfl rfl rfl (fun _ => rfl) (fun r91 z91 hp91 => ?_)
          obtain ⟨g2_5, rfl⟩ : ∃ y, y = z91 := ⟨_, rfl⟩
          try dsimp only at hp91
          refine g_is (ws2 := [(xo, o5 xt xp xd xn xa xc xs xk ks ch), (xn, .inr (3, [.ref xp, .ref xnc])), (xnc, .inl (cI, 20, .inl c)), (xa, .inr (3, [.ref xp, .ref xgc])), (xgc, .inl (cI, 20, .inl g2_5)), (xp, o2 r ti np nq nd), (r 1, .inl (cI, 5, .inl (fun k_ => nI (P 0 k_)))), (r 2, .inl (cI, 5, .inl (fun k_ => nI (P 1 k_)))), (r 3, .inl (cI, 5, .inl (fun k_ => nI (P 2 k_)))), (r 4, .inl (cI, 5, .inl (fun k_ => nI (P 3 k_)))), (r 5, .inl (cI, 5, .inl (fun k_ => nI (P 4 k_)))), (r 6, .inl (cI, 5, .inl (fun k_ => nI (P 5 k_))))]) (lv2 := [(0, .ref xo), (1, .int (nI k)), (2, .int (nI k2)), (3, .int (nI wn)), (4, .int (nI fo)), (5, .int x), (6, .int (nI i)), (7, .int (nI 1))]) (st2 := [.int r91]) rfl rfl rfl ?_
          refine g_top (y := gainF P nq nd c k2 k k2 i) hp91 ?_
          refine g_aload_n hC 0 dX5_rests_94 rfl rfl ?_
          refine g_iload_n hC 2 dX5_rests_95 rfl rfl ?_
          refine g_iload_n hC 1 dX5_rests_96 rfl rfl ?_
          refine g_iload_n hC 2 dX5_rests_97 rfl rfl ?_
          refine g_iload hC 6 dX5_rests_98 rfl ?_
          refine g_iconst (v := nI 1) hC dX5_rests_100 rfl ?_
          refine g_ixor_n (a := i) (b := 1) hC dX5_rests_101 ?_
          refine g_callVi (As := [.int (nI k2), .int (nI k), .int (nI k2), .int (nI (i ^^^ 1))]) (rest := [.int (gainF P nq nd c k2 k k2 i)]) hC (c_X5_gain l D cI cZ xo xt xp xd xn xa xc xs xk ks ch xnc c xgc g2_5 r ti np nq nd P k2 k k2 (i ^^^ 1) (by first | assumption | omega) (by first | assumption | omega) (by first | assumption | omega) (by first | assumption | omega) (xor4 (by omega) (by decide))) (cwV 4 hC.1.2.2.2.2 gX5_rests_X5_gain rfl rfl rfl dV_X5_gain ⟨Nat.le_of_ble_eq_true rfl, Nat.le_of_ble_eq_true rfl⟩) rfl rfl rfl rfl (Nat.le_of_ble_eq_true rfl) dX5_rests_102 ⟨Nat.le_of_ble_eq_true rfl, Nat.le_of_ble_eq_true rfl⟩ [0, 1, 2, 3, 4, 5, 6, 7, 8, 9, 10, 11] [] [0, 1, 2, 3, 4, 5, 6, 7, 8, 9, 10, 11] (fun (g2_6 : Nat → Int32) => [(xo, o5 xt xp xd xn xa xc xs xk ks ch), (xn, .inr (3, [.ref xp, .ref xnc])), (xnc, .inl (cI, 20, .inl c)), (xa, .inr (3, [.ref xp, .ref xgc])), (xgc, .inl (cI, 20, .inl g2_6)), (xp, o2 r ti np nq nd), (r 1, .inl (cI, 5, .inl (fun k_ => nI (P 0 k_)))), (r 2, .inl (cI, 5, .inl (fun k_ => nI (P 1 k_)))), (r 3, .inl (cI, 5, .inl (fun k_ => nI (P 2 k_)))), (r 4, .inl (cI, 5, .inl (fun k_ => nI (P 3 k_)))), (r 5, .inl (cI, 5, .inl (fun k_ => nI (P 4 k_)))), (r 6, .inl (cI, 5, .inl (fun k_ => nI (P 5 k_))))]) rfl rfl rfl (fun _ => rfl) (fun r102 z102 hp102 => ?_)
          obtain ⟨g2_6, rfl⟩ : ∃ y, y = z102 := ⟨_, rfl⟩
          try dsimp only at hp102
          refine g_is (ws2 := [(xo, o5 xt xp xd xn xa xc xs xk ks ch), (xn, .inr (3, [.ref xp, .ref xnc])), (xnc, .inl (cI, 20, .inl c)), (xa, .inr (3, [.ref xp, .ref xgc])), (xgc, .inl (cI, 20, .inl g2_6)), (xp, o2 r ti np nq nd), (r 1, .inl (cI, 5, .inl (fun k_ => nI (P 0 k_)))), (r 2, .inl (cI, 5, .inl (fun k_ => nI (P 1 k_)))), (r 3, .inl (cI, 5, .inl (fun k_ => nI (P 2 k_)))), (r 4, .inl (cI, 5, .inl (fun k_ => nI (P 3 k_)))), (r 5, .inl (cI, 5, .inl (fun k_ => nI (P 4 k_)))), (r 6, .inl (cI, 5, .inl (fun k_ => nI (P 5 k_))))]) (lv2 := [(0, .ref xo), (1, .int (nI k)), (2, .int (nI k2)), (3, .int (nI wn)), (4, .int (nI fo)), (5, .int x), (6, .int (nI i)), (7, .int (nI 1))]) (st2 := [.int r102, .int (gainF P nq nd c k2 k k2 i)]) rfl rfl rfl ?_
          refine g_top (y := gainF P nq nd c k2 k k2 (i ^^^ 1)) hp102 ?_
          refine g_icmp_lt hC 112 dX5_rests_105 (by decide) (fun h105t => ?_) (fun h105f => ?_)
          · refine g_iconst (v := nI 0) hC dX5_rests_112 rfl ?_
            refine g_istore (lv' := [(0, .ref xo), (1, .int (nI k)), (2, .int (nI k2)), (3, .int (nI wn)), (4, .int (nI fo)), (5, .int x), (6, .int (nI i)), (7, .int (nI 1)), (8, .int (nI 0))]) hC [1, 2, 3, 4, 5, 6, 7, 8, 0] dX5_rests_113 (by decide) rfl ?_
            refine g_iload hC 7 dX5_rests_115 rfl ?_
            refine g_if_eq_n (a := 1) hC (by omega) 152 dX5_rests_117 (by decide) (fun q => absurd q (by decide)) (fun _ => ?_)
            refine g_iload hC 8 dX5_rests_120 rfl ?_
            refine g_if_eq_n (a := 0) hC (by omega) 152 dX5_rests_122 (by decide) (fun _ => ?_) (fun q => absurd q (by decide))
            refine g_iinc (v := nI (i + 1)) (lv' := [(0, .ref xo), (1, .int (nI k)), (2, .int (nI k2)), (3, .int (nI wn)), (4, .int (nI fo)), (5, .int x), (6, .int (nI (i + 1))), (7, .int (nI 1)), (8, .int (nI 0))]) hC 6 [1, 2, 3, 4, 5, 6, 0, 7, 8] dX5_rests_152 rfl (nI_add _ 1) (by decide) rfl ?_
            refine g_goto hC 49 dX5_rests_155 (by decide) ?_
            refine g_lv [0, 1, 2, 3, 4, 5, 6] (lv2 := [(0, .ref xo), (1, .int (nI k)), (2, .int (nI k2)), (3, .int (nI wn)), (4, .int (nI fo)), (5, .int x), (6, .int (nI (i + 1)))]) rfl ?_
            refine ih49 (i + 1) fo x g2_6 ?_ ?_ ?_ ?_ ?_
            · omega
            · omega
            · show _ = reN P nq nd c k k2 i + (if reOK P nq nd c k k2 i then 1 else 0)
              rw [← hf, if_neg (fun w => absurd w.2 (Int32.not_le.mpr h105t))]; rfl --]
            · show _ = (if reOK P nq nd c k k2 i ∧ reN P nq nd c k k2 i = 0 then nI (10 * (i / 2) + (i &&& 1)) else reF P nq nd c k k2 i)
              rw [← hf, ← hx]
              rw [if_neg (fun w => (fun w => absurd w.2 (Int32.not_le.mpr h105t)) w.1)]
            · omega
          refine g_iconst (v := nI 1) hC dX5_rests_108 rfl ?_
          refine g_goto hC 113 dX5_rests_109 (by decide) ?_
          refine g_istore (lv' := [(0, .ref xo), (1, .int (nI k)), (2, .int (nI k2)), (3, .int (nI wn)), (4, .int (nI fo)), (5, .int x), (6, .int (nI i)), (7, .int (nI 1)), (8, .int (nI 1))]) hC [1, 2, 3, 4, 5, 6, 7, 8, 0] dX5_rests_113 (by decide) rfl ?_
          refine g_iload hC 7 dX5_rests_115 rfl ?_
          refine g_if_eq_n (a := 1) hC (by omega) 152 dX5_rests_117 (by decide) (fun q => absurd q (by decide)) (fun _ => ?_)
          refine g_iload hC 8 dX5_rests_120 rfl ?_
          refine g_if_eq_n (a := 1) hC (by omega) 152 dX5_rests_122 (by decide) (fun q => absurd q (by decide)) (fun _ => ?_)
          refine g_iload hC 4 dX5_rests_125 rfl ?_
          refine g_if_ne_n (a := fo) hC (by omega) 145 dX5_rests_127 (by decide) (fun h127t => ?_) (fun h127f => ?_)
          · refine g_iload hC 5 dX5_rests_145 rfl ?_
            refine g_istore (lv' := [(0, .ref xo), (1, .int (nI k)), (2, .int (nI k2)), (3, .int (nI wn)), (4, .int (nI fo)), (5, .int x), (6, .int (nI i)), (7, .int (nI 1)), (8, .int (nI 1))]) hC [1, 2, 3, 4, 5, 0, 6, 7, 8] dX5_rests_147 (by decide) rfl ?_
            refine g_iinc (v := nI (fo + 1)) (lv' := [(0, .ref xo), (1, .int (nI k)), (2, .int (nI k2)), (3, .int (nI wn)), (4, .int (nI (fo + 1))), (5, .int x), (6, .int (nI i)), (7, .int (nI 1)), (8, .int (nI 1))]) hC 4 [1, 2, 3, 4, 0, 5, 6, 7, 8] dX5_rests_149 rfl (nI_add _ 1) (by decide) rfl ?_
            refine g_iinc (v := nI (i + 1)) (lv' := [(0, .ref xo), (1, .int (nI k)), (2, .int (nI k2)), (3, .int (nI wn)), (4, .int (nI (fo + 1))), (5, .int x), (6, .int (nI (i + 1))), (7, .int (nI 1)), (8, .int (nI 1))]) hC 6 [1, 2, 3, 4, 5, 6, 0, 7, 8] dX5_rests_152 rfl (nI_add _ 1) (by decide) rfl ?_
            refine g_goto hC 49 dX5_rests_155 (by decide) ?_
            refine g_lv [0, 1, 2, 3, 4, 5, 6] (lv2 := [(0, .ref xo), (1, .int (nI k)), (2, .int (nI k2)), (3, .int (nI wn)), (4, .int (nI (fo + 1))), (5, .int x), (6, .int (nI (i + 1)))]) rfl ?_
            refine ih49 (i + 1) (fo + 1) x g2_6 ?_ ?_ ?_ ?_ ?_
            · omega
            · omega
            · show _ = reN P nq nd c k k2 i + (if reOK P nq nd c k k2 i then 1 else 0)
              rw [← hf, if_pos ⟨Int32.not_lt.mp h75f, Int32.not_lt.mp h105f⟩]
            · show _ = (if reOK P nq nd c k k2 i ∧ reN P nq nd c k k2 i = 0 then nI (10 * (i / 2) + (i &&& 1)) else reF P nq nd c k k2 i)
              rw [← hf, ← hx]
              rw [if_neg (fun w => h127t w.2)]
            · omega
          refine g_bipush (v := nI 10) hC dX5_rests_130 (by decide +kernel) ?_
          refine g_iload hC 6 dX5_rests_132 rfl ?_
          refine g_iconst (v := nI 1) hC dX5_rests_134 rfl ?_
          refine g_ishr_n (a := i) (b := 1) hC (by omega) (by omega) dX5_rests_135 ?_
          refine g_imul_n (a := 10) (b := (i / 2 ^ 1)) hC dX5_rests_136 ?_
          refine g_iload hC 6 dX5_rests_137 rfl ?_
          refine g_iconst (v := nI 1) hC dX5_rests_139 rfl ?_
          refine g_iand_n (a := i) (b := 1) hC dX5_rests_140 ?_
          refine g_iadd_n (a := (10 * (i / 2 ^ 1))) (b := (i &&& 1)) hC dX5_rests_141 ?_
          refine g_goto hC 147 dX5_rests_142 (by decide) ?_
          refine g_istore (lv' := [(0, .ref xo), (1, .int (nI k)), (2, .int (nI k2)), (3, .int (nI wn)), (4, .int (nI fo)), (5, .int (nI (10 * (i / 2 ^ 1) + (i &&& 1)))), (6, .int (nI i)), (7, .int (nI 1)), (8, .int (nI 1))]) hC [1, 2, 3, 4, 5, 0, 6, 7, 8] dX5_rests_147 (by decide) rfl ?_
          refine g_iinc (v := nI (fo + 1)) (lv' := [(0, .ref xo), (1, .int (nI k)), (2, .int (nI k2)), (3, .int (nI wn)), (4, .int (nI (fo + 1))), (5, .int (nI (10 * (i / 2 ^ 1) + (i &&& 1)))), (6, .int (nI i)), (7, .int (nI 1)), (8, .int (nI 1))]) hC 4 [1, 2, 3, 4, 0, 5, 6, 7, 8] dX5_rests_149 rfl (nI_add _ 1) (by decide) rfl ?_
          refine g_iinc (v := nI (i + 1)) (lv' := [(0, .ref xo), (1, .int (nI k)), (2, .int (nI k2)), (3, .int (nI wn)), (4, .int (nI (fo + 1))), (5, .int (nI (10 * (i / 2 ^ 1) + (i &&& 1)))), (6, .int (nI (i + 1))), (7, .int (nI 1)), (8, .int (nI 1))]) hC 6 [1, 2, 3, 4, 5, 6, 0, 7, 8] dX5_rests_152 rfl (nI_add _ 1) (by decide) rfl ?_
          refine g_goto hC 49 dX5_rests_155 (by decide) ?_
          refine g_lv [0, 1, 2, 3, 4, 5, 6] (lv2 := [(0, .ref xo), (1, .int (nI k)), (2, .int (nI k2)), (3, .int (nI wn)), (4, .int (nI (fo + 1))), (5, .int (nI (10 * (i / 2 ^ 1) + (i &&& 1)))), (6, .int (nI (i + 1)))]) rfl ?_
          refine ih49 (i + 1) (fo + 1) (nI (10 * (i / 2 ^ 1) + (i &&& 1))) g2_6 ?_ ?_ ?_ ?_ ?_
          · omega
          · omega
          · show _ = reN P nq nd c k k2 i + (if reOK P nq nd c k k2 i then 1 else 0)
            rw [← hf, if_pos ⟨Int32.not_lt.mp h75f, Int32.not_lt.mp h105f⟩]
          · show _ = (if reOK P nq nd c k k2 i ∧ reN P nq nd c k k2 i = 0 then nI (10 * (i / 2) + (i &&& 1)) else reF P nq nd c k k2 i)
            rw [← hf, ← hx]
            rw [if_pos ⟨⟨Int32.not_lt.mp h75f, Int32.not_lt.mp h105f⟩, h127f⟩]
          · omega
      refine L49 _ 0 0 (-9) g ?_ ?_ ?_ ?_ (Nat.lt_succ_self _)
      · omega
      · omega
      · rfl
      · rfl
    refine g_bipush (v := (-2)) hC dX5_rests_36 (by decide +kernel) ?_
    subst hQ
    refine g_iret (v := -2) hC (g) hr ?_ rfl dX5_rests_38
    rw [restsR, if_pos ⟨hin1, hin2⟩, if_neg (fun q => h33f q.2)]
  refine g_iconst (v := (-1)) hC dX5_rests_22 rfl ?_
  subst hQ
  refine g_iret (v := -1) hC (g) hr ?_ rfl dX5_rests_23
  rw [restsR, if_neg (fun q => h19f q.2)]

abbrev rm_X5_sales : Room := { frames := 6, cells := 0, slots := 0, locals := 130 }
set_option maxRecDepth 100000 in
set_option maxHeartbeats 16000000 in
theorem c_X5_sales (l : Launch) (D : va_G) (cI cZ : ClassId) (xo : Nat) (xt : Nat) (xp : Nat) (xd : Nat) (xn : Nat) (xa : Nat) (xc : Nat) (xs : Nat) (xk : Nat) (ks : Int32) (ch : Int64) (xnc : Nat) (c : Nat → Int32) (xgc : Nat) (g : Nat → Int32) (r : Nat → Nat) (ti : Int32) (np : Nat) (nq : Nat) (nd : Nat) (P : Nat → Nat → Nat) (a : Int32) (b : Int32) (ub : Nat) (hW : WFP np nq nd P) (hub : ub < 2) : CtI l yX5_sales wsX5_sales rm_X5_sales D cI cZ [.ref xo, .int a, .int b, .int (nI ub)] [(xo, o5 xt xp xd xn xa xc xs xk ks ch), (xn, .inr (3, [.ref xp, .ref xnc])), (xnc, .inl (cI, 20, .inl c)), (xa, .inr (3, [.ref xp, .ref xgc])), (xgc, .inl (cI, 20, .inl g)), (xp, o2 r ti np nq nd), (r 1, .inl (cI, 5, .inl (fun k_ => nI (P 0 k_)))), (r 2, .inl (cI, 5, .inl (fun k_ => nI (P 1 k_)))), (r 3, .inl (cI, 5, .inl (fun k_ => nI (P 2 k_)))), (r 4, .inl (cI, 5, .inl (fun k_ => nI (P 3 k_)))), (r 5, .inl (cI, 5, .inl (fun k_ => nI (P 4 k_)))), (r 6, .inl (cI, 5, .inl (fun k_ => nI (P 5 k_))))] (fun (r : Int32) (g2 : (Nat → Int32)) => r = salesR nq nd P c a b ub) (fun (g2 : (Nat → Int32)) => [(xo, o5 xt xp xd xn xa xc xs xk ks ch), (xn, .inr (3, [.ref xp, .ref xnc])), (xnc, .inl (cI, 20, .inl c)), (xa, .inr (3, [.ref xp, .ref xgc])), (xgc, .inl (cI, 20, .inl g2)), (xp, o2 r ti np nq nd), (r 1, .inl (cI, 5, .inl (fun k_ => nI (P 0 k_)))), (r 2, .inl (cI, 5, .inl (fun k_ => nI (P 1 k_)))), (r 3, .inl (cI, 5, .inl (fun k_ => nI (P 2 k_)))), (r 4, .inl (cI, 5, .inl (fun k_ => nI (P 3 k_)))), (r 5, .inl (cI, 5, .inl (fun k_ => nI (P 4 k_)))), (r 6, .inl (cI, 5, .inl (fun k_ => nI (P 5 k_))))]) 0 0 := by
  refine g_startI (ret := (some .int)) (own := RX5) (lv0 := [(0, .ref xo), (1, .int a), (2, .int b), (3, .int (nI ub))]) (by decide) rfl rfl (Nat.le_of_ble_eq_true rfl) rfl ?_
  intro p e s m args below meth cd A Q hin hr hQ hC
  have hcw5 : ∀ w ∈ wsX50, w ∈ wsX5_sales := fun _ h => List.mem_cons_of_mem _ (List.mem_append_left _ (List.mem_append_left _ (List.mem_append_right _ h)))
  have w1 := hC.1.2.2.2.2 (.fieldLink "PluckBroker" 31 "PluckBroker" "now" "LPluckBroker$State;") (List.mem_of_getElem? (i := 1) rfl)
  obtain ⟨⟨hnp, hnq, hnd⟩, hq4, hd5⟩ := id hW
  refine g_iload_n hC 1 dX5_sales_0 rfl rfl ?_
  refine g_if_lt hC 19 dX5_sales_1 (by decide) (fun h1t => ?_) (fun h1f => ?_)
  · refine g_bipush (v := (-2)) hC dX5_sales_19 (by decide +kernel) ?_
    subst hQ
    refine g_iret (v := -2) hC (g) hr ?_ rfl dX5_sales_21
    rw [salesR, if_neg (fun q => absurd q.1.1 (Int32.not_le.mpr h1t))]
  refine g_iload_n hC 1 dX5_sales_4 rfl rfl ?_
  refine g_iconst (v := nI 5) hC dX5_sales_5 rfl ?_
  refine g_icmp_gt hC 19 dX5_sales_6 (by decide) (fun h6t => ?_) (fun h6f => ?_)
  · refine g_bipush (v := (-2)) hC dX5_sales_19 (by decide +kernel) ?_
    subst hQ
    refine g_iret (v := -2) hC (g) hr ?_ rfl dX5_sales_21
    rw [salesR, if_neg (fun q => absurd q.1.2 (Int32.not_le.mpr h6t))]
  refine g_iload_n hC 2 dX5_sales_9 rfl rfl ?_
  refine g_if_lt hC 19 dX5_sales_10 (by decide) (fun h10t => ?_) (fun h10f => ?_)
  · refine g_bipush (v := (-2)) hC dX5_sales_19 (by decide +kernel) ?_
    subst hQ
    refine g_iret (v := -2) hC (g) hr ?_ rfl dX5_sales_21
    rw [salesR, if_neg (fun q => absurd q.2.1 (Int32.not_le.mpr h10t))]
  refine g_iload_n hC 2 dX5_sales_13 rfl rfl ?_
  refine g_bipush (v := nI 10) hC dX5_sales_14 (by decide +kernel) ?_
  refine g_icmp_le hC 22 dX5_sales_16 (by decide) (fun h16t => ?_) (fun h16f => ?_)
  · have okm : okM a := ⟨Int32.not_lt.mp h1f, Int32.not_lt.mp h6f⟩
    have okx : okX b := ⟨Int32.not_lt.mp h10f, h16t⟩
    obtain ⟨mq, hma, rfl⟩ := ok_n (M := 5) (by decide) okm
    obtain ⟨x, hbx, rfl⟩ := ok_n (M := 10) (by decide) okx
    have hKm : K (nI mq) = mq := K_n (by omega)
    have hKx : K (nI x) = x := K_n (by omega)
    refine g_aload_n hC 0 dX5_sales_22 rfl rfl ?_
    refine g_get (C := RX5) (T := TX5) (N := 10) (ci := 5) (v := .ref xn) hC hcw5 0 rfl rfl 3 (by decide) w1 (fun _ h => h) rfl dX5_sales_23 ?_
    refine g_iconst (v := nI 1) hC dX5_sales_26 rfl ?_
    refine g_callVip (As := [.int (nI 1)]) (rest := []) hC (nI (thatAre nq c (nI 1))) (c_X3_qualitiesThatAre l D cI cZ xn xp xnc c r ti np nq nd (nI 1) hnq) (cwV 1 hC.1.2.2.2.2 gX5_sales_X3_qualitiesThatAre rfl rfl rfl dV_X3_qualitiesThatAre ⟨Nat.le_of_ble_eq_true rfl, Nat.le_of_ble_eq_true rfl⟩) rfl rfl rfl rfl (Nat.le_of_ble_eq_true rfl) dX5_sales_27 ⟨Nat.le_of_ble_eq_true rfl, Nat.le_of_ble_eq_true rfl⟩ [1, 2, 5] rfl rfl ?_
    obtain ⟨pw, hpw⟩ : ∃ pw, pw = thatAre nq c (nI 1) := ⟨_, rfl⟩
    have hpw32 : pw < 32 := by rw [hpw]; exact bts_le hnq
    refine g_top (y := nI pw) (by rw [hpw]) ?_
    refine g_istore (lv' := [(0, .ref xo), (1, .int (nI mq)), (2, .int (nI x)), (3, .int (nI ub)), (4, .int (nI pw))]) hC [1, 2, 3, 4, 0] dX5_sales_30 (by decide) rfl ?_
    refine g_iconst (v := nI 0) hC dX5_sales_32 rfl ?_
    refine g_istore (lv' := [(0, .ref xo), (1, .int (nI mq)), (2, .int (nI x)), (3, .int (nI ub)), (4, .int (nI pw)), (5, .int (nI 0))]) hC [1, 2, 3, 4, 5, 0] dX5_sales_33 (by decide) rfl ?_
    refine g_iconst (v := nI 0) hC dX5_sales_35 rfl ?_
    refine g_istore (lv' := [(0, .ref xo), (1, .int (nI mq)), (2, .int (nI x)), (3, .int (nI ub)), (4, .int (nI pw)), (5, .int (nI 0)), (6, .int (nI 0))]) hC [1, 2, 3, 4, 5, 6, 0] dX5_sales_36 (by decide) rfl ?_
    refine g_iconst (v := nI 0) hC dX5_sales_38 rfl ?_
    refine g_istore (lv' := [(0, .ref xo), (1, .int (nI mq)), (2, .int (nI x)), (3, .int (nI ub)), (4, .int (nI pw)), (5, .int (nI 0)), (6, .int (nI 0)), (7, .int (nI 0))]) hC [1, 2, 3, 4, 5, 6, 7, 0] dX5_sales_39 (by decide) rfl ?_
    have L41 : ∀ (n : Nat) (i : Nat) (en : Nat) (al : Nat) (gg : Nat → Int32), (i ≤ 32) → (en = slE P nq nd c mq x i) → (al = slA pw x i) → 32 - i < n → G p l e rm_X5_sales s m args below meth cd D A 0 0 Q 9 [(xo, o5 xt xp xd xn xa xc xs xk ks ch), (xn, .inr (3, [.ref xp, .ref xnc])), (xnc, .inl (cI, 20, .inl c)), (xa, .inr (3, [.ref xp, .ref xgc])), (xgc, .inl (cI, 20, .inl gg)), (xp, o2 r ti np nq nd), (r 1, .inl (cI, 5, .inl (fun k_ => nI (P 0 k_)))), (r 2, .inl (cI, 5, .inl (fun k_ => nI (P 1 k_)))), (r 3, .inl (cI, 5, .inl (fun k_ => nI (P 2 k_)))), (r 4, .inl (cI, 5, .inl (fun k_ => nI (P 3 k_)))), (r 5, .inl (cI, 5, .inl (fun k_ => nI (P 4 k_)))), (r 6, .inl (cI, 5, .inl (fun k_ => nI (P 5 k_))))] 41 [(0, .ref xo), (1, .int (nI mq)), (2, .int (nI x)), (3, .int (nI ub)), (4, .int (nI pw)), (5, .int (nI en)), (6, .int (nI al)), (7, .int (nI i))] [] := by
      intro n
      induction n with
      | zero => intro i en al gg hi hen hal hn; exact absurd hn (Nat.not_lt_zero _)
      | succ n ih41 =>
        intro i en al gg hi hen hal hn
        refine g_iload hC 7 dX5_sales_41 rfl ?_
        refine g_bipush (v := nI 32) hC dX5_sales_43 (by decide +kernel) ?_
        refine g_icmp_ge_n (a := i) (b := 32) hC (by omega) (by omega) 102 dX5_sales_45 (by decide) (fun h45t => ?_) (fun h45f => ?_)
        · have ei : i = 32 := by omega
          rw [ei] at hen hal
          have h10 := slA_10 pw hpw32 x hbx
          have hp5 := pop5_le5 pw
          have hpl : 10 ^ pop5 pw ≤ 10 ^ 5 := Nat.pow_le_pow_right (by decide) hp5
          have hp0 : 0 < 10 ^ pop5 pw := Nat.pow_pos (by decide)
          have hle := slE_le (P := P) (nq := nq) (nd := nd) (c := c) (m := mq) (x := x) 32
          rw [← hpw] at hle
          refine g_iload hC 5 dX5_sales_102 rfl ?_
          refine g_iload hC 6 dX5_sales_104 rfl ?_
          refine g_iload_n hC 3 dX5_sales_106 rfl rfl ?_
          refine g_callSip (As := [.int (nI en), .int (nI al), .int (nI ub)]) (rest := []) hC (nI (fracR en al ub)) (c_X5_partOfFraction l D cI cZ en al ub (by omega) (by omega) (by omega) (by first | assumption | omega)) (va_cwS 3 hC.1.2.2.2.2 gX5_sales_X5_partOfFraction rfl rfl rfl dS_X5_partOfFraction ⟨Nat.le_of_ble_eq_true rfl, Nat.le_of_ble_eq_true rfl⟩) rfl rfl (Nat.le_of_ble_eq_true rfl) dX5_sales_107 ⟨Nat.le_of_ble_eq_true rfl, Nat.le_of_ble_eq_true rfl⟩ [] rfl rfl ?_
          subst hQ
          refine g_iret (v := nI (fracR en al ub)) hC (gg) hr ?_ rfl dX5_sales_110
          rw [salesR, if_pos ⟨okm, okx⟩, hKm, hKx, ← hpw, ← hen, ← hal]
        refine g_iload hC 7 dX5_sales_48 rfl ?_
        refine g_iload hC 4 dX5_sales_50 rfl ?_
        refine g_iconst (v := (-1)) hC dX5_sales_52 rfl ?_
        refine g_ixor hC dX5_sales_53 ?_
        refine g_iand hC dX5_sales_54 ?_
        refine g_if_ne hC 96 dX5_sales_55 (by decide) (fun h55t => ?_) (fun h55f => ?_)
        · have hns : ¬ subB i pw := fun q => h55t ((subB_i i (by omega) pw hpw32).mpr q)
          refine g_iinc (v := nI (i + 1)) (lv' := [(0, .ref xo), (1, .int (nI mq)), (2, .int (nI x)), (3, .int (nI ub)), (4, .int (nI pw)), (5, .int (nI en)), (6, .int (nI al)), (7, .int (nI (i + 1)))]) hC 7 [1, 2, 3, 4, 5, 6, 7, 0] dX5_sales_96 rfl (nI_add _ 1) (by decide) rfl ?_
          refine g_goto hC 41 dX5_sales_99 (by decide) ?_
          refine ih41 (i + 1) en al gg ?_ ?_ ?_ ?_
          · omega
          · show _ = slE P nq nd c mq x i + (if subB i (thatAre nq c (nI 1)) then (if mq ≤ pop5 (deedsThat nd (passN P nq nd (settleF i c nq) 20) (nI 1)) then wtF i (thatAre nq c (nI 1)) x 5 else 0) else 0)
            rw [← hen, ← hpw]
            rw [if_neg hns]; rfl
          · show _ = slA pw x i + (if subB i pw then wtF i pw x 5 else 0)
            rw [← hal, if_neg hns]; rfl --]
          · omega
        have hsub : subB i pw := (subB_i i (by omega) pw hpw32).mp h55f
        refine g_iload hC 7 dX5_sales_58 rfl ?_
        refine g_iload hC 4 dX5_sales_60 rfl ?_
        refine g_iload_n hC 2 dX5_sales_62 rfl rfl ?_
        refine g_callSip (As := [.int (nI i), .int (nI pw), .int (nI x)]) (rest := []) hC (nI (wtF i pw x 5)) (c_X5_weightOfSale l D cI cZ i pw x (by omega) (by first | assumption | omega) hbx) (va_cwS 3 hC.1.2.2.2.2 gX5_sales_X5_weightOfSale rfl rfl rfl dS_X5_weightOfSale ⟨Nat.le_of_ble_eq_true rfl, Nat.le_of_ble_eq_true rfl⟩) rfl rfl (Nat.le_of_ble_eq_true rfl) dX5_sales_63 ⟨Nat.le_of_ble_eq_true rfl, Nat.le_of_ble_eq_true rfl⟩ [] rfl rfl ?_
        refine g_istore (lv' := [(0, .ref xo), (1, .int (nI mq)), (2, .int (nI x)), (3, .int (nI ub)), (4, .int (nI pw)), (5, .int (nI en)), (6, .int (nI al)), (7, .int (nI i)), (8, .int (nI (wtF i pw x 5)))]) hC [1, 2, 3, 4, 5, 6, 7, 8, 0] dX5_sales_66 (by decide) rfl ?_
        refine g_iload hC 6 dX5_sales_68 rfl ?_
        refine g_iload hC 8 dX5_sales_70 rfl ?_
        refine g_iadd_n (a := al) (b := (wtF i pw x 5)) hC dX5_sales_72 ?_
        refine g_istore (lv' := [(0, .ref xo), (1, .int (nI mq)), (2, .int (nI x)), (3, .int (nI ub)), (4, .int (nI pw)), (5, .int (nI en)), (6, .int (nI (al + (wtF i pw x 5)))), (7, .int (nI i)), (8, .int (nI (wtF i pw x 5)))]) hC [1, 2, 3, 4, 5, 6, 0, 7, 8] dX5_sales_73 (by decide) rfl ?_
        refine g_iload hC 5 dX5_sales_75 rfl ?_
        refine g_aload_n hC 0 dX5_sales_77 rfl rfl ?_
        refine g_iload hC 7 dX5_sales_78 rfl ?_
        refine g_callVi (As := [.int (nI i)]) (rest := [.int (nI en)]) hC (c_X5_deedsIfSold l D cI cZ xo xt xp xd xn xa xc xs xk ks ch xnc c xgc gg r ti np nq nd P i (by first | assumption | omega) (by omega)) (cwV 1 hC.1.2.2.2.2 gX5_sales_X5_deedsIfSold rfl rfl rfl dV_X5_deedsIfSold ⟨Nat.le_of_ble_eq_true rfl, Nat.le_of_ble_eq_true rfl⟩) rfl rfl rfl rfl (Nat.le_of_ble_eq_true rfl) dX5_sales_80 ⟨Nat.le_of_ble_eq_true rfl, Nat.le_of_ble_eq_true rfl⟩ [0, 1, 2, 3, 4, 5, 6, 7, 8, 9, 10, 11] [] [0, 1, 2, 3, 4, 5, 6, 7, 8, 9, 10, 11] (fun (g2_1 : Nat → Int32) => [(xo, o5 xt xp xd xn xa xc xs xk ks ch), (xn, .inr (3, [.ref xp, .ref xnc])), (xnc, .inl (cI, 20, .inl c)), (xa, .inr (3, [.ref xp, .ref xgc])), (xgc, .inl (cI, 20, .inl g2_1)), (xp, o2 r ti np nq nd), (r 1, .inl (cI, 5, .inl (fun k_ => nI (P 0 k_)))), (r 2, .inl (cI, 5, .inl (fun k_ => nI (P 1 k_)))), (r 3, .inl (cI, 5, .inl (fun k_ => nI (P 2 k_)))), (r 4, .inl (cI, 5, .inl (fun k_ => nI (P 3 k_)))), (r 5, .inl (cI, 5, .inl (fun k_ => nI (P 4 k_)))), (r 6, .inl (cI, 5, .inl (fun k_ => nI (P 5 k_))))]) rfl rfl rfl (fun _ => rfl) (fun r80 z80 hp80 => ?_)
        obtain ⟨g2_1, rfl⟩ : ∃ y, y = z80 := ⟨_, rfl⟩
        try dsimp only at hp80
        refine g_is (ws2 := [(xo, o5 xt xp xd xn xa xc xs xk ks ch), (xn, .inr (3, [.ref xp, .ref xnc])), (xnc, .inl (cI, 20, .inl c)), (xa, .inr (3, [.ref xp, .ref xgc])), (xgc, .inl (cI, 20, .inl g2_1)), (xp, o2 r ti np nq nd), (r 1, .inl (cI, 5, .inl (fun k_ => nI (P 0 k_)))), (r 2, .inl (cI, 5, .inl (fun k_ => nI (P 1 k_)))), (r 3, .inl (cI, 5, .inl (fun k_ => nI (P 2 k_)))), (r 4, .inl (cI, 5, .inl (fun k_ => nI (P 3 k_)))), (r 5, .inl (cI, 5, .inl (fun k_ => nI (P 4 k_)))), (r 6, .inl (cI, 5, .inl (fun k_ => nI (P 5 k_))))]) (lv2 := [(0, .ref xo), (1, .int (nI mq)), (2, .int (nI x)), (3, .int (nI ub)), (4, .int (nI pw)), (5, .int (nI en)), (6, .int (nI (al + (wtF i pw x 5)))), (7, .int (nI i)), (8, .int (nI (wtF i pw x 5)))]) (st2 := [.int r80, .int (nI en)]) rfl rfl rfl ?_
        refine g_top (y := nI (pop5 (deedsThat nd (passN P nq nd (settleF i c nq) 20) (nI 1)))) hp80 ?_
        refine g_iload_n hC 1 dX5_sales_83 rfl rfl ?_
        refine g_icmp_lt_n (a := (pop5 (deedsThat nd (passN P nq nd (settleF i c nq) 20) (nI 1)))) (b := mq) hC (by have := pop5_le5 (deedsThat nd (passN P nq nd (settleF i c nq) 20) (nI 1)); omega) (by have := pop5_le5 (deedsThat nd (passN P nq nd (settleF i c nq) 20) (nI 1)); omega) 92 dX5_sales_84 (by decide) (fun h84t => ?_) (fun h84f => ?_)
        · refine g_iconst (v := nI 0) hC dX5_sales_92 rfl ?_
          refine g_iadd_n (a := en) (b := 0) hC dX5_sales_93 ?_
          refine g_istore (lv' := [(0, .ref xo), (1, .int (nI mq)), (2, .int (nI x)), (3, .int (nI ub)), (4, .int (nI pw)), (5, .int (nI (en + 0))), (6, .int (nI (al + (wtF i pw x 5)))), (7, .int (nI i)), (8, .int (nI (wtF i pw x 5)))]) hC [1, 2, 3, 4, 5, 0, 6, 7, 8] dX5_sales_94 (by decide) rfl ?_
          refine g_iinc (v := nI (i + 1)) (lv' := [(0, .ref xo), (1, .int (nI mq)), (2, .int (nI x)), (3, .int (nI ub)), (4, .int (nI pw)), (5, .int (nI (en + 0))), (6, .int (nI (al + (wtF i pw x 5)))), (7, .int (nI (i + 1))), (8, .int (nI (wtF i pw x 5)))]) hC 7 [1, 2, 3, 4, 5, 6, 7, 0, 8] dX5_sales_96 rfl (nI_add _ 1) (by decide) rfl ?_
          refine g_goto hC 41 dX5_sales_99 (by decide) ?_
          refine g_lv [0, 1, 2, 3, 4, 5, 6, 7] (lv2 := [(0, .ref xo), (1, .int (nI mq)), (2, .int (nI x)), (3, .int (nI ub)), (4, .int (nI pw)), (5, .int (nI (en + 0))), (6, .int (nI (al + (wtF i pw x 5)))), (7, .int (nI (i + 1)))]) rfl ?_
          refine ih41 (i + 1) (en + 0) (al + (wtF i pw x 5)) g2_1 ?_ ?_ ?_ ?_
          · omega
          · show _ = slE P nq nd c mq x i + (if subB i (thatAre nq c (nI 1)) then (if mq ≤ pop5 (deedsThat nd (passN P nq nd (settleF i c nq) 20) (nI 1)) then wtF i (thatAre nq c (nI 1)) x 5 else 0) else 0)
            rw [← hen, ← hpw]
            rw [if_pos hsub, if_neg (by omega)]
          · show _ = slA pw x i + (if subB i pw then wtF i pw x 5 else 0)
            rw [← hal, if_pos hsub]
          · omega
        refine g_iload hC 8 dX5_sales_87 rfl ?_
        refine g_goto hC 93 dX5_sales_89 (by decide) ?_
        refine g_iadd_n (a := en) (b := (wtF i pw x 5)) hC dX5_sales_93 ?_
        refine g_istore (lv' := [(0, .ref xo), (1, .int (nI mq)), (2, .int (nI x)), (3, .int (nI ub)), (4, .int (nI pw)), (5, .int (nI (en + (wtF i pw x 5)))), (6, .int (nI (al + (wtF i pw x 5)))), (7, .int (nI i)), (8, .int (nI (wtF i pw x 5)))]) hC [1, 2, 3, 4, 5, 0, 6, 7, 8] dX5_sales_94 (by decide) rfl ?_
        refine g_iinc (v := nI (i + 1)) (lv' := [(0, .ref xo), (1, .int (nI mq)), (2, .int (nI x)), (3, .int (nI ub)), (4, .int (nI pw)), (5, .int (nI (en + (wtF i pw x 5)))), (6, .int (nI (al + (wtF i pw x 5)))), (7, .int (nI (i + 1))), (8, .int (nI (wtF i pw x 5)))]) hC 7 [1, 2, 3, 4, 5, 6, 7, 0, 8] dX5_sales_96 rfl (nI_add _ 1) (by decide) rfl ?_
        refine g_goto hC 41 dX5_sales_99 (by decide) ?_
        refine g_lv [0, 1, 2, 3, 4, 5, 6, 7] (lv2 := [(0, .ref xo), (1, .int (nI mq)), (2, .int (nI x)), (3, .int (nI ub)), (4, .int (nI pw)), (5, .int (nI (en + (wtF i pw x 5)))), (6, .int (nI (al + (wtF i pw x 5)))), (7, .int (nI (i + 1)))]) rfl ?_
        refine ih41 (i + 1) (en + (wtF i pw x 5)) (al + (wtF i pw x 5)) g2_1 ?_ ?_ ?_ ?_
        · omega
        · show _ = slE P nq nd c mq x i + (if subB i (thatAre nq c (nI 1)) then (if mq ≤ pop5 (deedsThat nd (passN P nq nd (settleF i c nq) 20) (nI 1)) then wtF i (thatAre nq c (nI 1)) x 5 else 0) else 0)
          rw [← hen, ← hpw]
          rw [if_pos hsub, if_pos (by omega)]
        · show _ = slA pw x i + (if subB i pw then wtF i pw x 5 else 0)
          rw [← hal, if_pos hsub]
        · omega
    refine L41 _ 0 0 0 g ?_ ?_ ?_ (Nat.lt_succ_self _)
    · omega
    · rfl
    · rfl
  refine g_bipush (v := (-2)) hC dX5_sales_19 (by decide +kernel) ?_
  subst hQ
  refine g_iret (v := -2) hC (g) hr ?_ rfl dX5_sales_21
  rw [salesR, if_neg (fun q => absurd q.2.2 h16f)]

abbrev rm_X5_seed : Room := { frames := 0, cells := 0, slots := 0, locals := 0 }
set_option maxRecDepth 100000 in
set_option maxHeartbeats 4000000 in
theorem c_X5_seed (l : Launch) (D : va_G) (cI cZ : ClassId) (xo : Nat) (xt : Nat) (xp : Nat) (xd : Nat) (xn : Nat) (xa : Nat) (xc : Nat) (xs : Nat) (xk : Nat) (ks : Int32) (ch : Int64) (v : Int64) : CtL l yX5_seed wsX5_seed rm_X5_seed D cI cZ [.ref xo, .long v] [(xo, o5 xt xp xd xn xa xc xs xk ks ch)] (fun r (_ : Unit) => r = ch) (fun (_ : Unit) => [(xo, o5 xt xp xd xn xa xc xs xk ks v)]) 0 0 := by
  refine g_startL (ret := (some .long)) (own := RX5) (lv0 := [(0, .ref xo), (1, .long v)]) (by decide) rfl rfl (Nat.le_of_ble_eq_true rfl) rfl ?_
  intro p e s m args below meth cd A Q hin hr hQ hC
  have hcw5 : ∀ w ∈ wsX50, w ∈ wsX5_seed := fun _ h => List.mem_cons_of_mem _ (List.mem_append_right _ h)
  have w1 := hC.1.2.2.2.2 (.fieldLink "PluckBroker" 233 "PluckBroker" "chance" "J") (List.mem_of_getElem? (i := 1) rfl)
  refine g_aload_n hC 0 dX5_seed_0 rfl rfl ?_
  refine g_get (C := RX5) (T := TX5) (N := 10) (ci := 5) (v := .long ch) hC hcw5 0 rfl rfl 9 (by decide) w1 (fun _ h => h) rfl dX5_seed_1 ?_
  refine g_lstore_n (lv' := [(0, .ref xo), (1, .long v), (3, .long ch)]) hC [1, 2, 0] dX5_seed_4 rfl (by decide) rfl ?_
  refine g_aload_n hC 0 dX5_seed_5 rfl rfl ?_
  refine g_lload_n hC 1 dX5_seed_6 rfl rfl ?_
  refine g_put (C := RX5) (T := TX5) (N := 10) (ci := 5) (v := .long v) hC hcw5 tyX5 tyX5_ok nmX5 0 rfl rfl 9 (by decide) w1 (fun _ h => h) rfl (tyX5_ok 9 (by decide)) rfl rfl (Nat.le_of_ble_eq_true rfl) [(xo, o5 xt xp xd xn xa xc xs xk ks v)] rfl dX5_seed_7 ?_
  refine g_lload_n hC 2 dX5_seed_10 rfl rfl ?_
  subst hQ
  refine g_lret (v := ch) hC () hr ?_ rfl dX5_seed_11
  rfl

abbrev rm_X5_years : Room := { frames := 6, cells := 0, slots := 0, locals := 127 }
set_option maxRecDepth 100000 in
set_option maxHeartbeats 8000000 in
theorem c_X5_years (l : Launch) (D : va_G) (cI cZ : ClassId) (xo : Nat) (xt : Nat) (xp : Nat) (xd : Nat) (xn : Nat) (xa : Nat) (xc : Nat) (xs : Nat) (xk : Nat) (ks : Int32) (ch : Int64) (xnc : Nat) (c : Nat → Int32) (xgc : Nat) (g : Nat → Int32) (r : Nat → Nat) (ti : Int32) (np : Nat) (nq : Nat) (nd : Nat) (P : Nat → Nat → Nat) (a : Int32) (hW : WFP np nq nd P) : CtI l yX5_years wsX5_years rm_X5_years D cI cZ [.ref xo, .int a] [(xo, o5 xt xp xd xn xa xc xs xk ks ch), (xn, .inr (3, [.ref xp, .ref xnc])), (xnc, .inl (cI, 20, .inl c)), (xa, .inr (3, [.ref xp, .ref xgc])), (xgc, .inl (cI, 20, .inl g)), (xp, o2 r ti np nq nd), (r 1, .inl (cI, 5, .inl (fun k_ => nI (P 0 k_)))), (r 2, .inl (cI, 5, .inl (fun k_ => nI (P 1 k_)))), (r 3, .inl (cI, 5, .inl (fun k_ => nI (P 2 k_)))), (r 4, .inl (cI, 5, .inl (fun k_ => nI (P 3 k_)))), (r 5, .inl (cI, 5, .inl (fun k_ => nI (P 4 k_)))), (r 6, .inl (cI, 5, .inl (fun k_ => nI (P 5 k_))))] (fun (r : Int32) (z : (Nat → Int32) × Int64) => match z with | (g2, ch2) => r = yearsR np nq nd P c ch a ∧ ch2 = yearsH ch a) (fun (z : (Nat → Int32) × Int64) => match z with | (g2, ch2) => [(xo, o5 xt xp xd xn xa xc xs xk ks ch2), (xn, .inr (3, [.ref xp, .ref xnc])), (xnc, .inl (cI, 20, .inl c)), (xa, .inr (3, [.ref xp, .ref xgc])), (xgc, .inl (cI, 20, .inl g2)), (xp, o2 r ti np nq nd), (r 1, .inl (cI, 5, .inl (fun k_ => nI (P 0 k_)))), (r 2, .inl (cI, 5, .inl (fun k_ => nI (P 1 k_)))), (r 3, .inl (cI, 5, .inl (fun k_ => nI (P 2 k_)))), (r 4, .inl (cI, 5, .inl (fun k_ => nI (P 3 k_)))), (r 5, .inl (cI, 5, .inl (fun k_ => nI (P 4 k_)))), (r 6, .inl (cI, 5, .inl (fun k_ => nI (P 5 k_))))]) 0 0 := by
  refine g_startI (ret := (some .int)) (own := RX5) (lv0 := [(0, .ref xo), (1, .int a)]) (by decide) rfl rfl (Nat.le_of_ble_eq_true rfl) rfl ?_
  intro p e s m args below meth cd A Q hin hr hQ hC
  have hcw5 : ∀ w ∈ wsX50, w ∈ wsX5_years := fun _ h => List.mem_cons_of_mem _ (List.mem_append_left _ (List.mem_append_left _ (List.mem_append_right _ h)))
  have w1 := hC.1.2.2.2.2 (.fieldLink "PluckBroker" 35 "PluckBroker" "ahead" "LPluckBroker$State;") (List.mem_of_getElem? (i := 1) rfl)
  have w2 := hC.1.2.2.2.2 (.fieldLink "PluckBroker" 31 "PluckBroker" "now" "LPluckBroker$State;") (List.mem_of_getElem? (i := 2) rfl)
  have w3 := hC.1.2.2.2.2 (.fieldLink "PluckBroker" 233 "PluckBroker" "chance" "J") (List.mem_of_getElem? (i := 3) rfl)
  have w4 := hC.1.2.2.2.2 (.constantLong "PluckBroker" 237 6364136223846793005) (List.mem_of_getElem? (i := 4) rfl)
  have w5 := hC.1.2.2.2.2 (.constantLong "PluckBroker" 239 1442695040888963407) (List.mem_of_getElem? (i := 5) rfl)
  have w6 := hC.1.2.2.2.2 (.constantLong "PluckBroker" 241 24) (List.mem_of_getElem? (i := 6) rfl)
  obtain ⟨⟨hnp, hnq, hnd⟩, hq4, hd5⟩ := id hW
  refine g_iload_n hC 1 dX5_years_0 rfl rfl ?_
  refine g_iconst (v := nI 1) hC dX5_years_1 rfl ?_
  refine g_icmp_lt hC 11 dX5_years_2 (by decide) (fun h2t => ?_) (fun h2f => ?_)
  · refine g_bipush (v := (-2)) hC dX5_years_11 (by decide +kernel) ?_
    subst hQ
    refine g_iret (v := -2) hC (g, ch) hr ?_ rfl dX5_years_13
    have no : ¬ okY a := fun q => absurd q.1 (Int32.not_le.mpr h2t)
    rw [yearsR, yearsH, if_neg no, if_neg no]; exact ⟨rfl, rfl⟩
  refine g_iload_n hC 1 dX5_years_5 rfl rfl ?_
  refine g_bipush (v := nI 30) hC dX5_years_6 (by decide +kernel) ?_
  refine g_icmp_le hC 14 dX5_years_8 (by decide) (fun h8t => ?_) (fun h8f => ?_)
  · obtain ⟨jn, hj1, hj4, rfl⟩ := ok_n1 (M := 30) (by decide) h2f h8t
    have okj : okY (nI jn) := ⟨nI_le hj1 (by omega), nI_le hj4 (by decide)⟩
    have hKj : K (nI jn) = jn := K_n (by omega)
    refine g_aload_n hC 0 dX5_years_14 rfl rfl ?_
    refine g_get (C := RX5) (T := TX5) (N := 10) (ci := 5) (v := .ref xa) hC hcw5 0 rfl rfl 4 (by decide) w1 (fun _ h => h) rfl dX5_years_15 ?_
    refine g_aload_n hC 0 dX5_years_18 rfl rfl ?_
    refine g_get (C := RX5) (T := TX5) (N := 10) (ci := 5) (v := .ref xn) hC hcw5 0 rfl rfl 3 (by decide) w2 (fun _ h => h) rfl dX5_years_19 ?_
    refine g_callVv (As := [.ref xn]) (rest := []) hC (c_X3_copy l D cI cZ xa xp xgc g xn xp xnc c) (cwV 1 hC.1.2.2.2.2 gX5_years_X3_copy rfl rfl rfl dV_X3_copy ⟨Nat.le_of_ble_eq_true rfl, Nat.le_of_ble_eq_true rfl⟩) rfl rfl rfl rfl (Nat.le_of_ble_eq_true rfl) dX5_years_22 ⟨Nat.le_of_ble_eq_true rfl, Nat.le_of_ble_eq_true rfl⟩ [3, 4, 1, 2] [0, 5, 6, 7, 8, 9, 10, 11] [0, 10, 11, 8, 9, 1, 2, 3, 4, 5, 6, 7] (fun (_ : Unit) => [(xo, o5 xt xp xd xn xa xc xs xk ks ch), (xn, .inr (3, [.ref xp, .ref xnc])), (xnc, .inl (cI, 20, .inl c)), (xa, .inr (3, [.ref xp, .ref xgc])), (xgc, .inl (cI, 20, .inl c)), (xp, o2 r ti np nq nd), (r 1, .inl (cI, 5, .inl (fun k_ => nI (P 0 k_)))), (r 2, .inl (cI, 5, .inl (fun k_ => nI (P 1 k_)))), (r 3, .inl (cI, 5, .inl (fun k_ => nI (P 2 k_)))), (r 4, .inl (cI, 5, .inl (fun k_ => nI (P 3 k_)))), (r 5, .inl (cI, 5, .inl (fun k_ => nI (P 4 k_)))), (r 6, .inl (cI, 5, .inl (fun k_ => nI (P 5 k_))))]) rfl rfl rfl (fun _ => rfl) (fun z22 hp22 => ?_)
    refine g_is (ws2 := [(xo, o5 xt xp xd xn xa xc xs xk ks ch), (xn, .inr (3, [.ref xp, .ref xnc])), (xnc, .inl (cI, 20, .inl c)), (xa, .inr (3, [.ref xp, .ref xgc])), (xgc, .inl (cI, 20, .inl c)), (xp, o2 r ti np nq nd), (r 1, .inl (cI, 5, .inl (fun k_ => nI (P 0 k_)))), (r 2, .inl (cI, 5, .inl (fun k_ => nI (P 1 k_)))), (r 3, .inl (cI, 5, .inl (fun k_ => nI (P 2 k_)))), (r 4, .inl (cI, 5, .inl (fun k_ => nI (P 3 k_)))), (r 5, .inl (cI, 5, .inl (fun k_ => nI (P 4 k_)))), (r 6, .inl (cI, 5, .inl (fun k_ => nI (P 5 k_))))]) (lv2 := [(0, .ref xo), (1, .int (nI jn))]) (st2 := []) rfl rfl rfl ?_
    refine g_iconst (v := nI 0) hC dX5_years_25 rfl ?_
    refine g_istore_n (lv' := [(0, .ref xo), (1, .int (nI jn)), (2, .int (nI 0))]) hC [1, 2, 0] dX5_years_26 rfl (by decide) rfl ?_
    refine g_iconst (v := nI 0) hC dX5_years_27 rfl ?_
    refine g_istore_n (lv' := [(0, .ref xo), (1, .int (nI jn)), (2, .int (nI 0)), (3, .int (nI 0))]) hC [1, 2, 3, 0] dX5_years_28 rfl (by decide) rfl ?_
    have L29 : ∀ (n : Nat) (i : Nat) (x : Int32) (gg : Nat → Int32) (ch1 : Int64), (i ≤ jn) → (ch1 = yrH ch i) → (gg = yrG P np nq nd c ch i) → (x = yrS P np nq nd c ch i) → jn - i < n → G p l e rm_X5_years s m args below meth cd D A 0 0 Q 4 [(xo, o5 xt xp xd xn xa xc xs xk ks ch1), (xn, .inr (3, [.ref xp, .ref xnc])), (xnc, .inl (cI, 20, .inl c)), (xa, .inr (3, [.ref xp, .ref xgc])), (xgc, .inl (cI, 20, .inl gg)), (xp, o2 r ti np nq nd), (r 1, .inl (cI, 5, .inl (fun k_ => nI (P 0 k_)))), (r 2, .inl (cI, 5, .inl (fun k_ => nI (P 1 k_)))), (r 3, .inl (cI, 5, .inl (fun k_ => nI (P 2 k_)))), (r 4, .inl (cI, 5, .inl (fun k_ => nI (P 3 k_)))), (r 5, .inl (cI, 5, .inl (fun k_ => nI (P 4 k_)))), (r 6, .inl (cI, 5, .inl (fun k_ => nI (P 5 k_))))] 29 [(0, .ref xo), (1, .int (nI jn)), (2, .int x), (3, .int (nI i))] [] := by
      intro n
      induction n with
      | zero => intro i x gg ch1 hi hch hgg hx hn; exact absurd hn (Nat.not_lt_zero _)
      | succ n ih29 =>
        intro i x gg ch1 hi hch hgg hx hn
        refine g_iload_n hC 3 dX5_years_29 rfl rfl ?_
        refine g_iload_n hC 1 dX5_years_30 rfl rfl ?_
        refine g_icmp_ge_n (a := i) (b := jn) hC (by omega) (by omega) 85 dX5_years_31 (by decide) (fun h31t => ?_) (fun h31f => ?_)
        · refine g_iload_n hC 2 dX5_years_85 rfl rfl ?_
          subst hQ
          refine g_iret (v := x) hC (gg, ch1) hr ?_ rfl dX5_years_86
          have ei : i = jn := by omega
          rw [ei] at hx hch
          rw [yearsR, yearsH, if_pos okj, if_pos okj, hKj]; exact ⟨hx, hch⟩
        refine g_aload_n hC 0 dX5_years_34 rfl rfl ?_
        refine g_aload_n hC 0 dX5_years_35 rfl rfl ?_
        refine g_get (C := RX5) (T := TX5) (N := 10) (ci := 5) (v := .long ch1) hC hcw5 0 rfl rfl 9 (by decide) w3 (fun _ h => h) rfl dX5_years_36 ?_
        refine g_ldc2 (v := 6364136223846793005) hC w4 dX5_years_39 ?_
        refine g_lmul hC dX5_years_42 ?_
        refine g_ldc2 (v := 1442695040888963407) hC w5 dX5_years_43 ?_
        refine g_ladd hC dX5_years_46 ?_
        refine g_put (C := RX5) (T := TX5) (N := 10) (ci := 5) (v := .long ((ch1 * 6364136223846793005) + 1442695040888963407)) hC hcw5 tyX5 tyX5_ok nmX5 0 rfl rfl 9 (by decide) w3 (fun _ h => h) rfl (tyX5_ok 9 (by decide)) rfl rfl (Nat.le_of_ble_eq_true rfl) [(xo, o5 xt xp xd xn xa xc xs xk ks ((ch1 * 6364136223846793005) + 1442695040888963407)), (xn, .inr (3, [.ref xp, .ref xnc])), (xnc, .inl (cI, 20, .inl c)), (xa, .inr (3, [.ref xp, .ref xgc])), (xgc, .inl (cI, 20, .inl gg)), (xp, o2 r ti np nq nd), (r 1, .inl (cI, 5, .inl (fun k_ => nI (P 0 k_)))), (r 2, .inl (cI, 5, .inl (fun k_ => nI (P 1 k_)))), (r 3, .inl (cI, 5, .inl (fun k_ => nI (P 2 k_)))), (r 4, .inl (cI, 5, .inl (fun k_ => nI (P 3 k_)))), (r 5, .inl (cI, 5, .inl (fun k_ => nI (P 4 k_)))), (r 6, .inl (cI, 5, .inl (fun k_ => nI (P 5 k_))))] rfl dX5_years_47 ?_
        refine g_aload_n hC 0 dX5_years_50 rfl rfl ?_
        refine g_get (C := RX5) (T := TX5) (N := 10) (ci := 5) (v := .ref xa) hC hcw5 0 rfl rfl 4 (by decide) w1 (fun _ h => h) rfl dX5_years_51 ?_
        refine g_aload_n hC 0 dX5_years_54 rfl rfl ?_
        refine g_get (C := RX5) (T := TX5) (N := 10) (ci := 5) (v := .long ((ch1 * 6364136223846793005) + 1442695040888963407)) hC hcw5 0 rfl rfl 9 (by decide) w3 (fun _ h => h) rfl dX5_years_55 ?_
        refine g_bipush (v := nI 33) hC dX5_years_58 (by decide +kernel) ?_
        refine g_lushr hC dX5_years_60 rfl ?_
        refine g_topl (y := lN ((ch1 * 6364136223846793005 + 1442695040888963407).toBitVec.toNat / 2 ^ 33)) (chance_t _) ?_
        refine g_ldc2 (v := 24) hC w6 dX5_years_61 ?_
        refine g_topl (y := (nI 24).toInt64) (by decide +kernel) ?_
        refine g_topl (y := lN 24) (nI_l (by decide)) ?_
        refine g_lrem (x := lN ((ch1 * 6364136223846793005 + 1442695040888963407).toBitVec.toNat / 2 ^ 33)) (y := lN 24) hC dX5_years_64 (fun q => (by have := (ch1 * 6364136223846793005 + 1442695040888963407 : Int64).toBitVec.isLt; omega : 24 ≠ 0) ((pk_lEQ (a := 24) (b := 0) (by have := (ch1 * 6364136223846793005 + 1442695040888963407 : Int64).toBitVec.isLt; omega) (by decide)).mp q)) ?_
        refine g_topl (y := lN (((ch1 * 6364136223846793005 + 1442695040888963407).toBitVec.toNat / 2 ^ 33) % 24)) (pk_lRem (by have := (ch1 * 6364136223846793005 + 1442695040888963407 : Int64).toBitVec.isLt; omega) (by have := (ch1 * 6364136223846793005 + 1442695040888963407 : Int64).toBitVec.isLt; omega) (by have := (ch1 * 6364136223846793005 + 1442695040888963407 : Int64).toBitVec.isLt; omega)) ?_
        refine g_l2i (v := nI (((ch1 * 6364136223846793005 + 1442695040888963407).toBitVec.toNat / 2 ^ 33) % 24)) hC dX5_years_65 (lN_i _) ?_
        refine g_callVv (As := [.int (nI (((ch1 * 6364136223846793005 + 1442695040888963407).toBitVec.toNat / 2 ^ 33) % 24))]) (rest := []) hC (c_X3_chances l D cI cZ xa xp xgc gg r ti np nq nd P (((ch1 * 6364136223846793005 + 1442695040888963407).toBitVec.toNat / 2 ^ 33) % 24) (by first | assumption | omega) (Nat.mod_lt _ (by decide))) (cwV 1 hC.1.2.2.2.2 gX5_years_X3_chances rfl rfl rfl dV_X3_chances ⟨Nat.le_of_ble_eq_true rfl, Nat.le_of_ble_eq_true rfl⟩) rfl rfl rfl rfl (Nat.le_of_ble_eq_true rfl) dX5_years_66 ⟨Nat.le_of_ble_eq_true rfl, Nat.le_of_ble_eq_true rfl⟩ [3, 4, 5, 6, 7, 8, 9, 10, 11] [0, 1, 2] [0, 1, 2, 3, 4, 5, 6, 7, 8, 9, 10, 11] (fun (_ : Unit) => [(xo, o5 xt xp xd xn xa xc xs xk ks ((ch1 * 6364136223846793005) + 1442695040888963407)), (xn, .inr (3, [.ref xp, .ref xnc])), (xnc, .inl (cI, 20, .inl c)), (xa, .inr (3, [.ref xp, .ref xgc])), (xgc, .inl (cI, 20, .inl (chanceF P np nq nd gg (((ch1 * 6364136223846793005 + 1442695040888963407).toBitVec.toNat / 2 ^ 33) % 24)))), (xp, o2 r ti np nq nd), (r 1, .inl (cI, 5, .inl (fun k_ => nI (P 0 k_)))), (r 2, .inl (cI, 5, .inl (fun k_ => nI (P 1 k_)))), (r 3, .inl (cI, 5, .inl (fun k_ => nI (P 2 k_)))), (r 4, .inl (cI, 5, .inl (fun k_ => nI (P 3 k_)))), (r 5, .inl (cI, 5, .inl (fun k_ => nI (P 4 k_)))), (r 6, .inl (cI, 5, .inl (fun k_ => nI (P 5 k_))))]) rfl rfl rfl (fun _ => rfl) (fun z66 hp66 => ?_)
        refine g_is (ws2 := [(xo, o5 xt xp xd xn xa xc xs xk ks ((ch1 * 6364136223846793005) + 1442695040888963407)), (xn, .inr (3, [.ref xp, .ref xnc])), (xnc, .inl (cI, 20, .inl c)), (xa, .inr (3, [.ref xp, .ref xgc])), (xgc, .inl (cI, 20, .inl (chanceF P np nq nd gg (((ch1 * 6364136223846793005 + 1442695040888963407).toBitVec.toNat / 2 ^ 33) % 24)))), (xp, o2 r ti np nq nd), (r 1, .inl (cI, 5, .inl (fun k_ => nI (P 0 k_)))), (r 2, .inl (cI, 5, .inl (fun k_ => nI (P 1 k_)))), (r 3, .inl (cI, 5, .inl (fun k_ => nI (P 2 k_)))), (r 4, .inl (cI, 5, .inl (fun k_ => nI (P 3 k_)))), (r 5, .inl (cI, 5, .inl (fun k_ => nI (P 4 k_)))), (r 6, .inl (cI, 5, .inl (fun k_ => nI (P 5 k_))))]) (lv2 := [(0, .ref xo), (1, .int (nI jn)), (2, .int x), (3, .int (nI i))]) (st2 := []) rfl rfl rfl ?_
        refine g_iload_n hC 2 dX5_years_69 rfl rfl ?_
        refine g_aload_n hC 0 dX5_years_70 rfl rfl ?_
        refine g_get (C := RX5) (T := TX5) (N := 10) (ci := 5) (v := .ref xa) hC hcw5 0 rfl rfl 4 (by decide) w1 (fun _ h => h) rfl dX5_years_71 ?_
        refine g_callVip (As := []) (rest := [.int x]) hC (sumP (chanceF P np nq nd gg (((ch1 * 6364136223846793005 + 1442695040888963407).toBitVec.toNat / 2 ^ 33) % 24)) np) (c_X3_inAllPurses l D cI cZ xa xp xgc (chanceF P np nq nd gg (((ch1 * 6364136223846793005 + 1442695040888963407).toBitVec.toNat / 2 ^ 33) % 24)) r ti np nq nd (by first | assumption | omega)) (cwV 0 hC.1.2.2.2.2 gX5_years_X3_inAllPurses rfl rfl rfl dV_X3_inAllPurses ⟨Nat.le_of_ble_eq_true rfl, Nat.le_of_ble_eq_true rfl⟩) rfl rfl rfl rfl (Nat.le_of_ble_eq_true rfl) dX5_years_74 ⟨Nat.le_of_ble_eq_true rfl, Nat.le_of_ble_eq_true rfl⟩ [3, 4, 5] rfl rfl ?_
        refine g_iadd hC dX5_years_77 ?_
        refine g_istore_n (lv' := [(0, .ref xo), (1, .int (nI jn)), (2, .int (x + (sumP (chanceF P np nq nd gg (((ch1 * 6364136223846793005 + 1442695040888963407).toBitVec.toNat / 2 ^ 33) % 24)) np))), (3, .int (nI i))]) hC [1, 2, 0, 3] dX5_years_78 rfl (by decide) rfl ?_
        refine g_iinc (v := nI (i + 1)) (lv' := [(0, .ref xo), (1, .int (nI jn)), (2, .int (x + (sumP (chanceF P np nq nd gg (((ch1 * 6364136223846793005 + 1442695040888963407).toBitVec.toNat / 2 ^ 33) % 24)) np))), (3, .int (nI (i + 1)))]) hC 3 [1, 2, 3, 0] dX5_years_79 rfl (nI_add _ 1) (by decide) rfl ?_
        refine g_goto hC 29 dX5_years_82 (by decide) ?_
        refine ih29 (i + 1) (x + (sumP (chanceF P np nq nd gg (((ch1 * 6364136223846793005 + 1442695040888963407).toBitVec.toNat / 2 ^ 33) % 24)) np)) (chanceF P np nq nd gg (((ch1 * 6364136223846793005 + 1442695040888963407).toBitVec.toNat / 2 ^ 33) % 24)) ((ch1 * 6364136223846793005) + 1442695040888963407) ?_ ?_ ?_ ?_ ?_
        · omega
        · rw [hch]; rfl
        · rw [hgg, hch]; rfl
        · rw [hx, hgg, hch]; rfl
        · omega
    refine L29 _ 0 (nI 0) c ch ?_ ?_ ?_ ?_ (Nat.lt_succ_self _)
    · omega
    · rfl
    · rfl
    · rfl
  refine g_bipush (v := (-2)) hC dX5_years_11 (by decide +kernel) ?_
  subst hQ
  refine g_iret (v := -2) hC (g, ch) hr ?_ rfl dX5_years_13
  have no : ¬ okY a := fun q => absurd q.2 h8f
  rw [yearsR, yearsH, if_neg no, if_neg no]; exact ⟨rfl, rfl⟩

abbrev rm_X5_keep : Room := { frames := 2, cells := 0, slots := 0, locals := 45 }
set_option maxRecDepth 100000 in
set_option maxHeartbeats 4000000 in
theorem c_X5_keep (l : Launch) (D : va_G) (cI cZ : ClassId) (xo : Nat) (xt : Nat) (xp : Nat) (xd : Nat) (xn : Nat) (xa : Nat) (xc : Nat) (xs : Nat) (xk : Nat) (ch : Int64) (xnc : Nat) (c : Nat → Int32) (kf : Nat → Int32) (kn : Nat) (a : Int32) (hkn : kn < 4) : CtI l yX5_keep wsX5_keep rm_X5_keep D cI cZ [.ref xo, .int a] [(xo, o5 xt xp xd xn xa xc xs xk (nI kn) ch), (xk, .inl (cI, 40, .inl kf)), (xn, .inr (3, [.ref xp, .ref xnc])), (xnc, .inl (cI, 20, .inl c))] (fun (r : Int32) (z : (Nat → Int32) × Nat) => match z with | (kf2, kn2) => (r, kf2, kn2) = if okS a then (c 1, saveF kf c (K a), kn ||| 2 ^ K a) else ((-1), kf, kn)) (fun (z : (Nat → Int32) × Nat) => match z with | (kf2, kn2) => [(xo, o5 xt xp xd xn xa xc xs xk (nI kn2) ch), (xk, .inl (cI, 40, .inl kf2)), (xn, .inr (3, [.ref xp, .ref xnc])), (xnc, .inl (cI, 20, .inl c))]) 0 0 := by
  refine g_startI (ret := (some .int)) (own := RX5) (lv0 := [(0, .ref xo), (1, .int a)]) (by decide) rfl rfl (Nat.le_of_ble_eq_true rfl) rfl ?_
  intro p e s m args below meth cd A Q hin hr hQ hC
  have hcw5 : ∀ w ∈ wsX50, w ∈ wsX5_keep := fun _ h => List.mem_cons_of_mem _ (List.mem_append_left _ (List.mem_append_right _ h))
  have w1 := hC.1.2.2.2.2 (.fieldLink "PluckBroker" 31 "PluckBroker" "now" "LPluckBroker$State;") (List.mem_of_getElem? (i := 1) rfl)
  have w2 := hC.1.2.2.2.2 (.fieldLink "PluckBroker" 52 "PluckBroker" "kept" "[I") (List.mem_of_getElem? (i := 2) rfl)
  have w3 := hC.1.2.2.2.2 (.fieldLink "PluckBroker" 74 "PluckBroker" "keptSlots" "I") (List.mem_of_getElem? (i := 3) rfl)
  refine g_iload_n hC 1 dX5_keep_0 rfl rfl ?_
  refine g_if_lt hC 9 dX5_keep_1 (by decide) (fun h1t => ?_) (fun h1f => ?_)
  · refine g_iconst (v := (-1)) hC dX5_keep_9 rfl ?_
    subst hQ
    refine g_iret (v := -1) hC (kf, kn) hr ?_ rfl dX5_keep_10
    rw [if_neg (fun q => absurd q.1 (Int32.not_le.mpr h1t))]
  refine g_iload_n hC 1 dX5_keep_4 rfl rfl ?_
  refine g_iconst (v := nI 2) hC dX5_keep_5 rfl ?_
  refine g_icmp_lt hC 11 dX5_keep_6 (by decide) (fun h6t => ?_) (fun h6f => ?_)
  · obtain ⟨k, hk, rfl⟩ := inR_n (n := 2) (by decide) ⟨Int32.not_lt.mp h1f, h6t⟩
    have oks : okS (nI k) := inR_k (n := 2) (by decide) hk
    have hKk : K (nI k) = k := K_n (by omega)
    refine g_aload_n hC 0 dX5_keep_11 rfl rfl ?_
    refine g_get (C := RX5) (T := TX5) (N := 10) (ci := 5) (v := .ref xn) hC hcw5 0 rfl rfl 3 (by decide) w1 (fun _ h => h) rfl dX5_keep_12 ?_
    refine g_aload_n hC 0 dX5_keep_15 rfl rfl ?_
    refine g_get (C := RX5) (T := TX5) (N := 10) (ci := 5) (v := .ref xk) hC hcw5 0 rfl rfl 7 (by decide) w2 (fun _ h => h) rfl dX5_keep_16 ?_
    refine g_iload_n hC 1 dX5_keep_19 rfl rfl ?_
    refine g_callVv (As := [.ref xk, .int (nI k)]) (rest := []) hC (c_X3_saveTo l D cI cZ xn xp xnc c xk 40 kf k (by first | assumption | omega) (by first | assumption | omega)) (cwV 2 hC.1.2.2.2.2 gX5_keep_X3_saveTo rfl rfl rfl dV_X3_saveTo ⟨Nat.le_of_ble_eq_true rfl, Nat.le_of_ble_eq_true rfl⟩) rfl rfl rfl rfl (Nat.le_of_ble_eq_true rfl) dX5_keep_20 ⟨Nat.le_of_ble_eq_true rfl, Nat.le_of_ble_eq_true rfl⟩ [2, 3, 1] [0] [0, 3, 1, 2] (fun (_ : Unit) => [(xo, o5 xt xp xd xn xa xc xs xk (nI kn) ch), (xk, .inl (cI, 40, .inl (saveF kf c k))), (xn, .inr (3, [.ref xp, .ref xnc])), (xnc, .inl (cI, 20, .inl c))]) rfl rfl rfl (fun _ => rfl) (fun z20 hp20 => ?_)
    refine g_is (ws2 := [(xo, o5 xt xp xd xn xa xc xs xk (nI kn) ch), (xk, .inl (cI, 40, .inl (saveF kf c k))), (xn, .inr (3, [.ref xp, .ref xnc])), (xnc, .inl (cI, 20, .inl c))]) (lv2 := [(0, .ref xo), (1, .int (nI k))]) (st2 := []) rfl rfl rfl ?_
    refine g_aload_n hC 0 dX5_keep_23 rfl rfl ?_
    refine g_dup hC dX5_keep_24 rfl ?_
    refine g_get (C := RX5) (T := TX5) (N := 10) (ci := 5) (v := .int (nI kn)) hC hcw5 0 rfl rfl 8 (by decide) w3 (fun _ h => h) rfl dX5_keep_25 ?_
    refine g_iconst (v := nI 1) hC dX5_keep_28 rfl ?_
    refine g_iload_n hC 1 dX5_keep_29 rfl rfl ?_
    refine g_shl1_n (b := k) hC (by omega) dX5_keep_30 ?_
    refine g_ior_n (a := kn) (b := (2 ^ k)) hC dX5_keep_31 ?_
    refine g_put (C := RX5) (T := TX5) (N := 10) (ci := 5) (v := .int (nI (kn ||| (2 ^ k)))) hC hcw5 tyX5 tyX5_ok nmX5 0 rfl rfl 8 (by decide) w3 (fun _ h => h) rfl (tyX5_ok 8 (by decide)) rfl rfl (Nat.le_of_ble_eq_true rfl) [(xo, o5 xt xp xd xn xa xc xs xk (nI (kn ||| (2 ^ k))) ch), (xk, .inl (cI, 40, .inl (saveF kf c k))), (xn, .inr (3, [.ref xp, .ref xnc])), (xnc, .inl (cI, 20, .inl c))] rfl dX5_keep_32 ?_
    refine g_aload_n hC 0 dX5_keep_35 rfl rfl ?_
    refine g_get (C := RX5) (T := TX5) (N := 10) (ci := 5) (v := .ref xn) hC hcw5 0 rfl rfl 3 (by decide) w1 (fun _ h => h) rfl dX5_keep_36 ?_
    refine g_callVip (As := []) (rest := []) hC (c 1) (c_X3_today l D cI cZ xn xp xnc c) (cwV 0 hC.1.2.2.2.2 gX5_keep_X3_today rfl rfl rfl dV_X3_today ⟨Nat.le_of_ble_eq_true rfl, Nat.le_of_ble_eq_true rfl⟩) rfl rfl rfl rfl (Nat.le_of_ble_eq_true rfl) dX5_keep_39 ⟨Nat.le_of_ble_eq_true rfl, Nat.le_of_ble_eq_true rfl⟩ [2, 3] rfl rfl ?_
    subst hQ
    refine g_iret (v := c 1) hC (saveF kf c k, kn ||| (2 ^ k)) hr ?_ rfl dX5_keep_42
    rw [if_pos oks, hKk]
  refine g_iconst (v := (-1)) hC dX5_keep_9 rfl ?_
  subst hQ
  refine g_iret (v := -1) hC (kf, kn) hr ?_ rfl dX5_keep_10
  rw [if_neg (fun q => absurd q.2 h6f)]

abbrev rm_X5_again : Room := { frames := 2, cells := 0, slots := 0, locals := 44 }
set_option maxRecDepth 100000 in
set_option maxHeartbeats 4000000 in
theorem c_X5_again (l : Launch) (D : va_G) (cI cZ : ClassId) (xo : Nat) (xt : Nat) (xp : Nat) (xd : Nat) (xn : Nat) (xa : Nat) (xc : Nat) (xs : Nat) (xk : Nat) (ch : Int64) (xnc : Nat) (c : Nat → Int32) (kf : Nat → Int32) (kn : Nat) (xcb : Nat) (u : Nat) (cnt : Nat) (a : Int32) (hkn : kn < 4) : CtI l yX5_again wsX5_again rm_X5_again D cI cZ [.ref xo, .int a] [(xo, o5 xt xp xd xn xa xc xs xk (nI kn) ch), (xk, .inl (cI, 40, .inl kf)), (xn, .inr (3, [.ref xp, .ref xnc])), (xnc, .inl (cI, 20, .inl c)), (xc, .inr (0, [.ref xcb, .int (nI u), .int (nI cnt)]))] (fun (r : Int32) (z : (Nat → Int32) × Nat) => match z with | (c2, cnt2) => (r, c2, cnt2) = if okS a then (if hasB kn (K a) then (loadF kf (K a) 1, loadF kf (K a), 0) else ((-3), c, cnt)) else ((-1), c, cnt)) (fun (z : (Nat → Int32) × Nat) => match z with | (c2, cnt2) => [(xo, o5 xt xp xd xn xa xc xs xk (nI kn) ch), (xk, .inl (cI, 40, .inl kf)), (xn, .inr (3, [.ref xp, .ref xnc])), (xnc, .inl (cI, 20, .inl c2)), (xc, .inr (0, [.ref xcb, .int (nI u), .int (nI cnt2)]))]) 0 0 := by
  refine g_startI (ret := (some .int)) (own := RX5) (lv0 := [(0, .ref xo), (1, .int a)]) (by decide) rfl rfl (Nat.le_of_ble_eq_true rfl) rfl ?_
  intro p e s m args below meth cd A Q hin hr hQ hC
  have hcw5 : ∀ w ∈ wsX50, w ∈ wsX5_again := fun _ h => List.mem_cons_of_mem _ (List.mem_append_left _ (List.mem_append_left _ (List.mem_append_right _ h)))
  have w1 := hC.1.2.2.2.2 (.fieldLink "PluckBroker" 74 "PluckBroker" "keptSlots" "I") (List.mem_of_getElem? (i := 1) rfl)
  have w2 := hC.1.2.2.2.2 (.fieldLink "PluckBroker" 31 "PluckBroker" "now" "LPluckBroker$State;") (List.mem_of_getElem? (i := 2) rfl)
  have w3 := hC.1.2.2.2.2 (.fieldLink "PluckBroker" 52 "PluckBroker" "kept" "[I") (List.mem_of_getElem? (i := 3) rfl)
  have w4 := hC.1.2.2.2.2 (.fieldLink "PluckBroker" 41 "PluckBroker" "acts" "LPluckBroker$Acts;") (List.mem_of_getElem? (i := 4) rfl)
  refine g_iload_n hC 1 dX5_again_0 rfl rfl ?_
  refine g_if_lt hC 9 dX5_again_1 (by decide) (fun h1t => ?_) (fun h1f => ?_)
  · refine g_iconst (v := (-1)) hC dX5_again_9 rfl ?_
    subst hQ
    refine g_iret (v := -1) hC (c, cnt) hr ?_ rfl dX5_again_10
    rw [if_neg (fun q => absurd q.1 (Int32.not_le.mpr h1t))]
  refine g_iload_n hC 1 dX5_again_4 rfl rfl ?_
  refine g_iconst (v := nI 2) hC dX5_again_5 rfl ?_
  refine g_icmp_lt hC 11 dX5_again_6 (by decide) (fun h6t => ?_) (fun h6f => ?_)
  · obtain ⟨k, hk, rfl⟩ := inR_n (n := 2) (by decide) ⟨Int32.not_lt.mp h1f, h6t⟩
    have oks : okS (nI k) := inR_k (n := 2) (by decide) hk
    have hKk : K (nI k) = k := K_n (by omega)
    refine g_aload_n hC 0 dX5_again_11 rfl rfl ?_
    refine g_get (C := RX5) (T := TX5) (N := 10) (ci := 5) (v := .int (nI kn)) hC hcw5 0 rfl rfl 8 (by decide) w1 (fun _ h => h) rfl dX5_again_12 ?_
    refine g_iload_n hC 1 dX5_again_15 rfl rfl ?_
    refine g_ishr_n (a := kn) (b := k) hC (by omega) (by omega) dX5_again_16 ?_
    refine g_iconst (v := nI 1) hC dX5_again_17 rfl ?_
    refine g_iand_n (a := (kn / 2 ^ k)) (b := 1) hC dX5_again_18 ?_
    refine g_if_ne_n (a := ((kn / 2 ^ k) &&& 1)) hC (by first | exact and1_lt _ | omega) 25 dX5_again_19 (by decide) (fun h19t => ?_) (fun h19f => ?_)
    · refine g_aload_n hC 0 dX5_again_25 rfl rfl ?_
      refine g_get (C := RX5) (T := TX5) (N := 10) (ci := 5) (v := .ref xn) hC hcw5 0 rfl rfl 3 (by decide) w2 (fun _ h => h) rfl dX5_again_26 ?_
      refine g_aload_n hC 0 dX5_again_29 rfl rfl ?_
      refine g_get (C := RX5) (T := TX5) (N := 10) (ci := 5) (v := .ref xk) hC hcw5 0 rfl rfl 7 (by decide) w3 (fun _ h => h) rfl dX5_again_30 ?_
      refine g_iload_n hC 1 dX5_again_33 rfl rfl ?_
      refine g_callVv (As := [.ref xk, .int (nI k)]) (rest := []) hC (c_X3_loadFrom l D cI cZ xn xp xnc c xk 40 kf k (by first | assumption | omega) (by first | assumption | omega)) (cwV 2 hC.1.2.2.2.2 gX5_again_X3_loadFrom rfl rfl rfl dV_X3_loadFrom ⟨Nat.le_of_ble_eq_true rfl, Nat.le_of_ble_eq_true rfl⟩) rfl rfl rfl rfl (Nat.le_of_ble_eq_true rfl) dX5_again_34 ⟨Nat.le_of_ble_eq_true rfl, Nat.le_of_ble_eq_true rfl⟩ [2, 3, 1] [0, 4] [0, 4, 2, 3, 1] (fun (_ : Unit) => [(xo, o5 xt xp xd xn xa xc xs xk (nI kn) ch), (xk, .inl (cI, 40, .inl kf)), (xn, .inr (3, [.ref xp, .ref xnc])), (xnc, .inl (cI, 20, .inl (loadF kf k))), (xc, .inr (0, [.ref xcb, .int (nI u), .int (nI cnt)]))]) rfl rfl rfl (fun _ => rfl) (fun z34 hp34 => ?_)
      refine g_is (ws2 := [(xo, o5 xt xp xd xn xa xc xs xk (nI kn) ch), (xk, .inl (cI, 40, .inl kf)), (xn, .inr (3, [.ref xp, .ref xnc])), (xnc, .inl (cI, 20, .inl (loadF kf k))), (xc, .inr (0, [.ref xcb, .int (nI u), .int (nI cnt)]))]) (lv2 := [(0, .ref xo), (1, .int (nI k))]) (st2 := []) rfl rfl rfl ?_
      refine g_aload_n hC 0 dX5_again_37 rfl rfl ?_
      refine g_get (C := RX5) (T := TX5) (N := 10) (ci := 5) (v := .ref xc) hC hcw5 0 rfl rfl 5 (by decide) w4 (fun _ h => h) rfl dX5_again_38 ?_
      refine g_callVv (As := []) (rest := []) hC (c_X0_forget l D cI cZ xc xcb u cnt) (cwV 0 hC.1.2.2.2.2 gX5_again_X0_forget rfl rfl rfl dV_X0_forget ⟨Nat.le_of_ble_eq_true rfl, Nat.le_of_ble_eq_true rfl⟩) rfl rfl rfl rfl (Nat.le_of_ble_eq_true rfl) dX5_again_41 ⟨Nat.le_of_ble_eq_true rfl, Nat.le_of_ble_eq_true rfl⟩ [4] [0, 1, 2, 3] [0, 1, 2, 3, 4] (fun (_ : Unit) => [(xo, o5 xt xp xd xn xa xc xs xk (nI kn) ch), (xk, .inl (cI, 40, .inl kf)), (xn, .inr (3, [.ref xp, .ref xnc])), (xnc, .inl (cI, 20, .inl (loadF kf k))), (xc, .inr (0, [.ref xcb, .int (nI u), .int (nI 0)]))]) rfl rfl rfl (fun _ => rfl) (fun z41 hp41 => ?_)
      refine g_is (ws2 := [(xo, o5 xt xp xd xn xa xc xs xk (nI kn) ch), (xk, .inl (cI, 40, .inl kf)), (xn, .inr (3, [.ref xp, .ref xnc])), (xnc, .inl (cI, 20, .inl (loadF kf k))), (xc, .inr (0, [.ref xcb, .int (nI u), .int (nI 0)]))]) (lv2 := [(0, .ref xo), (1, .int (nI k))]) (st2 := []) rfl rfl rfl ?_
      refine g_aload_n hC 0 dX5_again_44 rfl rfl ?_
      refine g_get (C := RX5) (T := TX5) (N := 10) (ci := 5) (v := .ref xn) hC hcw5 0 rfl rfl 3 (by decide) w2 (fun _ h => h) rfl dX5_again_45 ?_
      refine g_callVip (As := []) (rest := []) hC ((loadF kf k) 1) (c_X3_today l D cI cZ xn xp xnc (loadF kf k)) (cwV 0 hC.1.2.2.2.2 gX5_again_X3_today rfl rfl rfl dV_X3_today ⟨Nat.le_of_ble_eq_true rfl, Nat.le_of_ble_eq_true rfl⟩) rfl rfl rfl rfl (Nat.le_of_ble_eq_true rfl) dX5_again_48 ⟨Nat.le_of_ble_eq_true rfl, Nat.le_of_ble_eq_true rfl⟩ [2, 3] rfl rfl ?_
      subst hQ
      refine g_iret (v := (loadF kf k) 1) hC (loadF kf k, 0) hr ?_ rfl dX5_again_51
      have h1 : hasB kn k := by have : kn / 2 ^ k &&& 1 ≤ 1 := Nat.and_le_right; show kn / 2 ^ k &&& 1 = 1; omega
      rw [if_pos oks, hKk, if_pos h1]
    refine g_bipush (v := (-3)) hC dX5_again_22 (by decide +kernel) ?_
    subst hQ
    refine g_iret (v := -3) hC (c, cnt) hr ?_ rfl dX5_again_24
    rw [if_pos oks, hKk, if_neg (fun q => by have : kn / 2 ^ k &&& 1 = 1 := q; omega)]
  refine g_iconst (v := (-1)) hC dX5_again_9 rfl ?_
  subst hQ
  refine g_iret (v := -1) hC (c, cnt) hr ?_ rfl dX5_again_10
  rw [if_neg (fun q => absurd q.2 h6f)]
