abbrev rm_X3_begin : Room := { frames := 2, cells := 0, slots := 0, locals := 42 }
set_option maxRecDepth 100000 in
set_option maxHeartbeats 4000000 in
theorem c_X3_begin (l : Launch) (D : va_G) (cI cZ : ClassId) (hs : Nat) (hp : Nat) (hc : Nat) (c : Nat → Int32) (r : Nat → Nat) (np : Nat) (nq : Nat) (nd : Nat) (t : Nat) (pu : Nat → Nat) (hnp : np ≤ 3) : CtV l yX3_begin wsX3_begin rm_X3_begin D cI cZ [.ref hs] [(hs, .inr (3, [.ref hp, .ref hc])), (hc, .inl (cI, 20, .inl c)), (hp, o2 r (nI t) np nq nd), (r 0, .inl (cI, 3, .inl (fun k_ => nI (pu k_))))] (fun (_ : Unit) => True) (fun (_ : Unit) => [(hs, .inr (3, [.ref hp, .ref hc])), (hc, .inl (cI, 20, .inl (beginF np t pu))), (hp, o2 r (nI t) np nq nd), (r 0, .inl (cI, 3, .inl (fun k_ => nI (pu k_))))]) 0 0 := by
  refine g_startV (ret := none) (own := RX3) (lv0 := [(0, .ref hs)]) (by decide) rfl rfl (Nat.le_of_ble_eq_true rfl) rfl ?_
  intro p e s m args below meth cd A Q hin hr hQ hC
  have hcw2 : ∀ w ∈ wsX20, w ∈ wsX3_begin := fun _ h => List.mem_cons_of_mem _ (List.mem_append_right _ h)
  have hcw3 : ∀ w ∈ wsX30, w ∈ wsX3_begin := fun _ h => List.mem_cons_of_mem _ (List.mem_append_left _ (List.mem_append_right _ h))
  have w1 := hC.1.2.2.2.2 (.fieldLink "PluckBroker$State" 11 "PluckBroker$State" "cells" "[I") (List.mem_of_getElem? (i := 1) rfl)
  have w2 := hC.1.2.2.2.2 (.fieldLink "PluckBroker$State" 15 "PluckBroker$State" "plan" "LPluckBroker$Plan;") (List.mem_of_getElem? (i := 2) rfl)
  have w3 := hC.1.2.2.2.2 (.static ⟨"PluckBroker", "put", "([III)V"⟩) (List.mem_of_getElem? (i := 3) rfl)
  have w4 := hC.1.2.2.2.2 (.initialized "PluckBroker") (List.mem_of_getElem? (i := 4) rfl)
  refine g_iconst (v := nI 0) hC dX3_begin_0 rfl ?_
  refine g_istore_n (lv' := [(0, .ref hs), (1, .int (nI 0))]) hC [1, 0] dX3_begin_1 rfl (by decide) rfl ?_
  have L2 : ∀ (n : Nat) (i : Nat) (g : Nat → Int32), (i ≤ 20) → (g = wrG c 0 (fun _ => nI 0) i) → 20 - i < n → G p l e rm_X3_begin s m args below meth cd D A 0 0 Q 2 [(hs, .inr (3, [.ref hp, .ref hc])), (hc, .inl (cI, 20, .inl g)), (hp, o2 r (nI t) np nq nd), (r 0, .inl (cI, 3, .inl (fun k_ => nI (pu k_))))] 2 [(0, .ref hs), (1, .int (nI i))] [] := by
    intro n
    induction n with
    | zero => intro i g hi hg hn; exact absurd hn (Nat.not_lt_zero _)
    | succ n ih2 =>
      intro i g hi hg hn
      refine g_iload_n hC 1 dX3_begin_2 rfl rfl ?_
      refine g_aload_n hC 0 dX3_begin_3 rfl rfl ?_
      refine g_get (C := RX3) (T := TX3) (N := 2) (ci := 3) (v := .ref hc) hC hcw3 0 rfl rfl 1 (by decide) w1 (fun _ h => h) rfl dX3_begin_4 ?_
      refine g_alen hC 1 rfl dX3_begin_7 ?_
      refine g_icmp_ge_n (a := i) (b := 20) hC (by omega) (by omega) 24 dX3_begin_8 (by decide) (fun h8t => ?_) (fun h8f => ?_)
      · have ei : i = 20 := by omega
        rw [ei] at hg
        refine g_aload_n hC 0 dX3_begin_24 rfl rfl ?_
        refine g_get (C := RX3) (T := TX3) (N := 2) (ci := 3) (v := .ref hc) hC hcw3 0 rfl rfl 1 (by decide) w1 (fun _ h => h) rfl dX3_begin_25 ?_
        refine g_iconst (v := nI 0) hC dX3_begin_28 rfl ?_
        refine g_iconst (v := nI 4) hC dX3_begin_29 rfl ?_
        refine g_aload_n hC 0 dX3_begin_30 rfl rfl ?_
        refine g_get (C := RX3) (T := TX3) (N := 2) (ci := 3) (v := .ref hp) hC hcw3 0 rfl rfl 0 (by decide) w2 (fun _ h => h) rfl dX3_begin_31 ?_
        refine g_getN (C := RX2) (T := TX2) (N := 11) (ci := 2) (v := .int (nI t)) hC hcw2 2 rfl rfl 7 (by decide) (hC.2.2.1.f 1 rfl) (fun _ h => h) rfl dX3_begin_34 ?_
        refine g_imul_n (a := 4) (b := t) hC dX3_begin_37 ?_
        refine g_callSNv (As := [.ref hc, .int (nI 0), .int (nI (4 * t))]) (rest := []) hC (c_X5_put l D cI cZ hc 20 g 0 (nI (4 * t)) (by first | assumption | omega) (by first | assumption | omega)) ⟨va_cnB 3 hC.1.2.2.2.2 gX3_begin_X5_put_n25 rfl rfl rfl (hC.2.2.1.m 7 rfl) w4 dS_X5_put ⟨Nat.le_of_ble_eq_true rfl, Nat.le_of_ble_eq_true rfl⟩, w3, trivial⟩ rfl rfl (Nat.le_of_ble_eq_true rfl) dX3_begin_38 ⟨Nat.le_of_ble_eq_true rfl, Nat.le_of_ble_eq_true rfl⟩ [1] [0, 2, 3] [0, 3, 1, 2] (fun (_ : Unit) => [(hs, .inr (3, [.ref hp, .ref hc])), (hc, .inl (cI, 20, .inl (upd g 0 (nI (4 * t))))), (hp, o2 r (nI t) np nq nd), (r 0, .inl (cI, 3, .inl (fun k_ => nI (pu k_))))]) rfl rfl rfl (fun _ => rfl) (fun z38 hp38 => ?_)
        refine g_is (ws2 := [(hs, .inr (3, [.ref hp, .ref hc])), (hc, .inl (cI, 20, .inl (upd g 0 (nI (4 * t))))), (hp, o2 r (nI t) np nq nd), (r 0, .inl (cI, 3, .inl (fun k_ => nI (pu k_))))]) (lv2 := [(0, .ref hs), (1, .int (nI i))]) (st2 := []) rfl rfl rfl ?_
        refine g_iconst (v := nI 0) hC dX3_begin_41 rfl ?_
        refine g_istore_n (lv' := [(0, .ref hs), (1, .int (nI 0))]) hC [1, 0] dX3_begin_42 rfl (by decide) rfl ?_
        have L43 : ∀ (n : Nat) (i2 : Nat) (g2 : Nat → Int32), (i2 ≤ np) → (g2 = wrG (upd g 0 (nI (4 * t))) 2 (fun k_ => nI (pu k_)) i2) → np - i2 < n → G p l e rm_X3_begin s m args below meth cd D A 0 0 Q 2 [(hs, .inr (3, [.ref hp, .ref hc])), (hc, .inl (cI, 20, .inl g2)), (hp, o2 r (nI t) np nq nd), (r 0, .inl (cI, 3, .inl (fun k_ => nI (pu k_))))] 43 [(0, .ref hs), (1, .int (nI i2))] [] := by
          intro n
          induction n with
          | zero => intro i2 g2 hi2 hg2 hn; exact absurd hn (Nat.not_lt_zero _)
          | succ n ih43 =>
            intro i2 g2 hi2 hg2 hn
            refine g_iload_n hC 1 dX3_begin_43 rfl rfl ?_
            refine g_aload_n hC 0 dX3_begin_44 rfl rfl ?_
            refine g_get (C := RX3) (T := TX3) (N := 2) (ci := 3) (v := .ref hp) hC hcw3 0 rfl rfl 0 (by decide) w2 (fun _ h => h) rfl dX3_begin_45 ?_
            refine g_getN (C := RX2) (T := TX2) (N := 11) (ci := 2) (v := .int (nI np)) hC hcw2 2 rfl rfl 8 (by decide) (hC.2.2.1.f 3 rfl) (fun _ h => h) rfl dX3_begin_48 ?_
            refine g_icmp_ge_n (a := i2) (b := np) hC (by omega) (by omega) 78 dX3_begin_51 (by decide) (fun h51t => ?_) (fun h51f => ?_)
            · have e2 : i2 = np := by omega
              rw [e2] at hg2
              refine g_arr (f2 := (beginF np t pu)) 1 rfl (fun j hj => ?_) [(hs, .inr (3, [.ref hp, .ref hc])), (hc, .inl (cI, 20, .inl (beginF np t pu))), (hp, o2 r (nI t) np nq nd), (r 0, .inl (cI, 3, .inl (fun k_ => nI (pu k_))))] rfl ?_
              · rw [hg2, wrG_at]
                unfold beginF
                by_cases q : 2 ≤ j ∧ j < 2 + np
                · rw [if_pos q, if_neg (by omega), if_pos q]
                · rw [if_neg q, if_neg q]
                  by_cases q0 : j = 0
                  · rw [if_pos q0, q0, upd_self]
                  · rw [if_neg q0, upd_ne _ _ q0, hg, wrG_at, if_pos (by omega)]
              subst hQ
              refine g_vret hC () hr ?_ rfl dX3_begin_78
              trivial
            refine g_aload_n hC 0 dX3_begin_54 rfl rfl ?_
            refine g_get (C := RX3) (T := TX3) (N := 2) (ci := 3) (v := .ref hc) hC hcw3 0 rfl rfl 1 (by decide) w1 (fun _ h => h) rfl dX3_begin_55 ?_
            refine g_iconst (v := nI 2) hC dX3_begin_58 rfl ?_
            refine g_iload_n hC 1 dX3_begin_59 rfl rfl ?_
            refine g_iadd_n (a := 2) (b := i2) hC dX3_begin_60 ?_
            refine g_aload_n hC 0 dX3_begin_61 rfl rfl ?_
            refine g_get (C := RX3) (T := TX3) (N := 2) (ci := 3) (v := .ref hp) hC hcw3 0 rfl rfl 0 (by decide) w2 (fun _ h => h) rfl dX3_begin_62 ?_
            refine g_iload_n hC 1 dX3_begin_65 rfl rfl ?_
            refine g_callVip (As := [.int (nI i2)]) (rest := [.int (nI (2 + i2)), .ref hc]) hC (nI (pu i2)) (c_X2_firstPurseOf l D cI cZ hp r (nI t) np nq nd (fun k_ => nI (pu k_)) i2 (by first | assumption | omega)) (cwV 1 hC.1.2.2.2.2 gX3_begin_X2_firstPurseOf rfl rfl rfl dV_X2_firstPurseOf ⟨Nat.le_of_ble_eq_true rfl, Nat.le_of_ble_eq_true rfl⟩) rfl rfl rfl rfl (Nat.le_of_ble_eq_true rfl) dX3_begin_66 ⟨Nat.le_of_ble_eq_true rfl, Nat.le_of_ble_eq_true rfl⟩ [2, 3] rfl rfl ?_
            refine g_callSNv (As := [.ref hc, .int (nI (2 + i2)), .int (nI (pu i2))]) (rest := []) hC (c_X5_put l D cI cZ hc 20 g2 (2 + i2) (nI (pu i2)) (by first | assumption | omega) (by first | assumption | omega)) ⟨va_cnB 3 hC.1.2.2.2.2 gX3_begin_X5_put_n25 rfl rfl rfl (hC.2.2.1.m 7 rfl) w4 dS_X5_put ⟨Nat.le_of_ble_eq_true rfl, Nat.le_of_ble_eq_true rfl⟩, w3, trivial⟩ rfl rfl (Nat.le_of_ble_eq_true rfl) dX3_begin_69 ⟨Nat.le_of_ble_eq_true rfl, Nat.le_of_ble_eq_true rfl⟩ [1] [0, 2, 3] [0, 3, 1, 2] (fun (_ : Unit) => [(hs, .inr (3, [.ref hp, .ref hc])), (hc, .inl (cI, 20, .inl (upd g2 (2 + i2) (nI (pu i2))))), (hp, o2 r (nI t) np nq nd), (r 0, .inl (cI, 3, .inl (fun k_ => nI (pu k_))))]) rfl rfl rfl (fun _ => rfl) (fun z69 hp69 => ?_)
            refine g_is (ws2 := [(hs, .inr (3, [.ref hp, .ref hc])), (hc, .inl (cI, 20, .inl (upd g2 (2 + i2) (nI (pu i2))))), (hp, o2 r (nI t) np nq nd), (r 0, .inl (cI, 3, .inl (fun k_ => nI (pu k_))))]) (lv2 := [(0, .ref hs), (1, .int (nI i2))]) (st2 := []) rfl rfl rfl ?_
            refine g_iinc (v := nI (i2 + 1)) (lv' := [(0, .ref hs), (1, .int (nI (i2 + 1)))]) hC 1 [1, 0] dX3_begin_72 rfl (nI_add _ 1) (by decide) rfl ?_
            refine g_goto hC 43 dX3_begin_75 (by decide) ?_
            refine ih43 (i2 + 1) (upd g2 (2 + i2) (nI (pu i2))) ?_ ?_ ?_
            · omega
            · rw [hg2]; rfl
            · omega
        refine L43 _ 0 (upd g 0 (nI (4 * t))) ?_ ?_ (Nat.lt_succ_self _)
        · omega
        · rfl
      refine g_aload_n hC 0 dX3_begin_11 rfl rfl ?_
      refine g_get (C := RX3) (T := TX3) (N := 2) (ci := 3) (v := .ref hc) hC hcw3 0 rfl rfl 1 (by decide) w1 (fun _ h => h) rfl dX3_begin_12 ?_
      refine g_iload_n hC 1 dX3_begin_15 rfl rfl ?_
      refine g_iconst (v := nI 0) hC dX3_begin_16 rfl ?_
      refine g_iast hC 1 rfl i rfl (by omega) (by decide) [(hs, .inr (3, [.ref hp, .ref hc])), (hc, .inl (cI, 20, .inl (upd g i (nI 0)))), (hp, o2 r (nI t) np nq nd), (r 0, .inl (cI, 3, .inl (fun k_ => nI (pu k_))))] rfl dX3_begin_17 ?_
      refine g_iinc (v := nI (i + 1)) (lv' := [(0, .ref hs), (1, .int (nI (i + 1)))]) hC 1 [1, 0] dX3_begin_18 rfl (nI_add _ 1) (by decide) rfl ?_
      refine g_goto hC 2 dX3_begin_21 (by decide) ?_
      refine ih2 (i + 1) (upd g i (nI 0)) ?_ ?_ ?_
      · omega
      · show upd g i (nI 0) = upd (wrG c 0 (fun _ => nI 0) i) (0 + i) (nI 0)
        rw [Nat.zero_add, hg]
      · omega
  refine L2 _ 0 c ?_ ?_ (Nat.lt_succ_self _)
  · omega
  · rfl

abbrev rm_X3_saveTo : Room := { frames := 1, cells := 0, slots := 0, locals := 22 }
set_option maxRecDepth 100000 in
set_option maxHeartbeats 4000000 in
theorem c_X3_saveTo (l : Launch) (D : va_G) (cI cZ : ClassId) (hs : Nat) (hp : Nat) (hc : Nat) (c : Nat → Int32) (hk : Nat) (mm : Nat) (f : Nat → Int32) (num : Nat) (hn : num * 20 + 20 ≤ mm) (hm : mm < 2 ^ 20) : CtV l yX3_saveTo wsX3_saveTo rm_X3_saveTo D cI cZ [.ref hs, .ref hk, .int (nI num)] [(hs, .inr (3, [.ref hp, .ref hc])), (hc, .inl (cI, 20, .inl c)), (hk, .inl (cI, mm, .inl f))] (fun (_ : Unit) => True) (fun (_ : Unit) => [(hs, .inr (3, [.ref hp, .ref hc])), (hc, .inl (cI, 20, .inl c)), (hk, .inl (cI, mm, .inl (saveF f c num)))]) 0 0 := by
  refine g_startV (ret := none) (own := RX3) (lv0 := [(0, .ref hs), (1, .ref hk), (2, .int (nI num))]) (by decide) rfl rfl (Nat.le_of_ble_eq_true rfl) rfl ?_
  intro p e s m args below meth cd A Q hin hr hQ hC
  have hcw3 : ∀ w ∈ wsX30, w ∈ wsX3_saveTo := fun _ h => List.mem_cons_of_mem _ (List.mem_append_right _ h)
  have w1 := hC.1.2.2.2.2 (.fieldLink "PluckBroker$State" 11 "PluckBroker$State" "cells" "[I") (List.mem_of_getElem? (i := 1) rfl)
  have w2 := hC.1.2.2.2.2 (.static ⟨"PluckBroker", "put", "([III)V"⟩) (List.mem_of_getElem? (i := 2) rfl)
  have w3 := hC.1.2.2.2.2 (.initialized "PluckBroker") (List.mem_of_getElem? (i := 3) rfl)
  refine g_iconst (v := nI 0) hC dX3_saveTo_0 rfl ?_
  refine g_istore_n (lv' := [(0, .ref hs), (1, .ref hk), (2, .int (nI num)), (3, .int (nI 0))]) hC [1, 2, 3, 0] dX3_saveTo_1 rfl (by decide) rfl ?_
  have L2 : ∀ (n : Nat) (i : Nat) (g : Nat → Int32), (i ≤ 20) → (g = wrG f (num * 20) c i) → 20 - i < n → G p l e rm_X3_saveTo s m args below meth cd D A 0 0 Q 4 [(hs, .inr (3, [.ref hp, .ref hc])), (hc, .inl (cI, 20, .inl c)), (hk, .inl (cI, mm, .inl g))] 2 [(0, .ref hs), (1, .ref hk), (2, .int (nI num)), (3, .int (nI i))] [] := by
    intro n
    induction n with
    | zero => intro i g hi hg hn; exact absurd hn (Nat.not_lt_zero _)
    | succ n ih2 =>
      intro i g hi hg hn
      refine g_iload_n hC 3 dX3_saveTo_2 rfl rfl ?_
      refine g_aload_n hC 0 dX3_saveTo_3 rfl rfl ?_
      refine g_get (C := RX3) (T := TX3) (N := 2) (ci := 3) (v := .ref hc) hC hcw3 0 rfl rfl 1 (by decide) w1 (fun _ h => h) rfl dX3_saveTo_4 ?_
      refine g_alen hC 1 rfl dX3_saveTo_7 ?_
      refine g_icmp_ge_n (a := i) (b := 20) hC (by omega) (by omega) 33 dX3_saveTo_8 (by decide) (fun h8t => ?_) (fun h8f => ?_)
      · have ei : i = 20 := by omega
        rw [ei, Nat.mul_comm, wrG_save] at hg
        have ecell : g = (saveF f c num) := by exact hg
        refine g_ws (ws2 := [(hs, .inr (3, [.ref hp, .ref hc])), (hc, .inl (cI, 20, .inl c)), (hk, .inl (cI, mm, .inl (saveF f c num)))]) (congrArg (fun zz : Nat → Int32 => ([(hs, .inr (3, [.ref hp, .ref hc])), (hc, .inl (cI, 20, .inl c)), (hk, .inl (cI, mm, .inl zz))] : va_W)) ecell) ?_
        subst hQ
        refine g_vret hC () hr ?_ rfl dX3_saveTo_33
        trivial
      refine g_aload_n hC 1 dX3_saveTo_11 rfl rfl ?_
      refine g_iload_n hC 2 dX3_saveTo_12 rfl rfl ?_
      refine g_bipush (v := nI 20) hC dX3_saveTo_13 (by decide +kernel) ?_
      refine g_imul_n (a := num) (b := 20) hC dX3_saveTo_15 ?_
      refine g_iload_n hC 3 dX3_saveTo_16 rfl rfl ?_
      refine g_iadd_n (a := (num * 20)) (b := i) hC dX3_saveTo_17 ?_
      refine g_aload_n hC 0 dX3_saveTo_18 rfl rfl ?_
      refine g_get (C := RX3) (T := TX3) (N := 2) (ci := 3) (v := .ref hc) hC hcw3 0 rfl rfl 1 (by decide) w1 (fun _ h => h) rfl dX3_saveTo_19 ?_
      refine g_iload_n hC 3 dX3_saveTo_22 rfl rfl ?_
      refine g_iald hC 1 rfl i rfl (by omega) (by decide) dX3_saveTo_23 ?_
      refine g_callSNv (As := [.ref hk, .int (nI (num * 20 + i)), .int (c i)]) (rest := []) hC (c_X5_put l D cI cZ hk mm g (num * 20 + i) (c i) (by first | assumption | omega) (by first | assumption | omega)) ⟨va_cnB 3 hC.1.2.2.2.2 gX3_saveTo_X5_put_n25 rfl rfl rfl (hC.2.2.1.m 7 rfl) w3 dS_X5_put ⟨Nat.le_of_ble_eq_true rfl, Nat.le_of_ble_eq_true rfl⟩, w2, trivial⟩ rfl rfl (Nat.le_of_ble_eq_true rfl) dX3_saveTo_24 ⟨Nat.le_of_ble_eq_true rfl, Nat.le_of_ble_eq_true rfl⟩ [2] [0, 1] [0, 1, 2] (fun (_ : Unit) => [(hs, .inr (3, [.ref hp, .ref hc])), (hc, .inl (cI, 20, .inl c)), (hk, .inl (cI, mm, .inl (upd g (num * 20 + i) (c i))))]) rfl rfl rfl (fun _ => rfl) (fun z24 hp24 => ?_)
      refine g_is (ws2 := [(hs, .inr (3, [.ref hp, .ref hc])), (hc, .inl (cI, 20, .inl c)), (hk, .inl (cI, mm, .inl (upd g (num * 20 + i) (c i))))]) (lv2 := [(0, .ref hs), (1, .ref hk), (2, .int (nI num)), (3, .int (nI i))]) (st2 := []) rfl rfl rfl ?_
      refine g_iinc (v := nI (i + 1)) (lv' := [(0, .ref hs), (1, .ref hk), (2, .int (nI num)), (3, .int (nI (i + 1)))]) hC 3 [1, 2, 3, 0] dX3_saveTo_27 rfl (nI_add _ 1) (by decide) rfl ?_
      refine g_goto hC 2 dX3_saveTo_30 (by decide) ?_
      refine ih2 (i + 1) (upd g (num * 20 + i) (c i)) ?_ ?_ ?_
      · omega
      · rw [hg]; rfl
      · omega
  refine L2 _ 0 f ?_ ?_ (Nat.lt_succ_self _)
  · omega
  · rfl

abbrev rm_X3_loadFrom : Room := { frames := 1, cells := 0, slots := 0, locals := 21 }
set_option maxRecDepth 100000 in
set_option maxHeartbeats 4000000 in
theorem c_X3_loadFrom (l : Launch) (D : va_G) (cI cZ : ClassId) (hs : Nat) (hp : Nat) (hc : Nat) (c : Nat → Int32) (hk : Nat) (mm : Nat) (f : Nat → Int32) (num : Nat) (hn : num * 20 + 20 ≤ mm) (hm : mm < 2 ^ 20) : CtV l yX3_loadFrom wsX3_loadFrom rm_X3_loadFrom D cI cZ [.ref hs, .ref hk, .int (nI num)] [(hs, .inr (3, [.ref hp, .ref hc])), (hc, .inl (cI, 20, .inl c)), (hk, .inl (cI, mm, .inl f))] (fun (_ : Unit) => True) (fun (_ : Unit) => [(hs, .inr (3, [.ref hp, .ref hc])), (hc, .inl (cI, 20, .inl (loadF f num))), (hk, .inl (cI, mm, .inl f))]) 0 0 := by
  refine g_startV (ret := none) (own := RX3) (lv0 := [(0, .ref hs), (1, .ref hk), (2, .int (nI num))]) (by decide) rfl rfl (Nat.le_of_ble_eq_true rfl) rfl ?_
  intro p e s m args below meth cd A Q hin hr hQ hC
  have hcw3 : ∀ w ∈ wsX30, w ∈ wsX3_loadFrom := fun _ h => List.mem_cons_of_mem _ (List.mem_append_right _ h)
  have w1 := hC.1.2.2.2.2 (.fieldLink "PluckBroker$State" 11 "PluckBroker$State" "cells" "[I") (List.mem_of_getElem? (i := 1) rfl)
  have w2 := hC.1.2.2.2.2 (.static ⟨"PluckBroker", "cell", "([II)I"⟩) (List.mem_of_getElem? (i := 2) rfl)
  have w3 := hC.1.2.2.2.2 (.initialized "PluckBroker") (List.mem_of_getElem? (i := 3) rfl)
  refine g_iconst (v := nI 0) hC dX3_loadFrom_0 rfl ?_
  refine g_istore_n (lv' := [(0, .ref hs), (1, .ref hk), (2, .int (nI num)), (3, .int (nI 0))]) hC [1, 2, 3, 0] dX3_loadFrom_1 rfl (by decide) rfl ?_
  have L2 : ∀ (n : Nat) (i : Nat) (g : Nat → Int32), (i ≤ 20) → (g = wrG c 0 (fun k => f (num * 20 + k)) i) → 20 - i < n → G p l e rm_X3_loadFrom s m args below meth cd D A 0 0 Q 4 [(hs, .inr (3, [.ref hp, .ref hc])), (hc, .inl (cI, 20, .inl g)), (hk, .inl (cI, mm, .inl f))] 2 [(0, .ref hs), (1, .ref hk), (2, .int (nI num)), (3, .int (nI i))] [] := by
    intro n
    induction n with
    | zero => intro i g hi hg hn; exact absurd hn (Nat.not_lt_zero _)
    | succ n ih2 =>
      intro i g hi hg hn
      refine g_iload_n hC 3 dX3_loadFrom_2 rfl rfl ?_
      refine g_aload_n hC 0 dX3_loadFrom_3 rfl rfl ?_
      refine g_get (C := RX3) (T := TX3) (N := 2) (ci := 3) (v := .ref hc) hC hcw3 0 rfl rfl 1 (by decide) w1 (fun _ h => h) rfl dX3_loadFrom_4 ?_
      refine g_alen hC 1 rfl dX3_loadFrom_7 ?_
      refine g_icmp_ge_n (a := i) (b := 20) hC (by omega) (by omega) 33 dX3_loadFrom_8 (by decide) (fun h8t => ?_) (fun h8f => ?_)
      · have ei : i = 20 := by omega
        rw [ei] at hg
        refine g_arr (f2 := (loadF f num)) 1 rfl (fun j hj => by rw [hg, wrG_at, if_pos (by omega), Nat.sub_zero, Nat.mul_comm]; rfl) [(hs, .inr (3, [.ref hp, .ref hc])), (hc, .inl (cI, 20, .inl (loadF f num))), (hk, .inl (cI, mm, .inl f))] rfl ?_
        subst hQ
        refine g_vret hC () hr ?_ rfl dX3_loadFrom_33
        trivial
      refine g_aload_n hC 0 dX3_loadFrom_11 rfl rfl ?_
      refine g_get (C := RX3) (T := TX3) (N := 2) (ci := 3) (v := .ref hc) hC hcw3 0 rfl rfl 1 (by decide) w1 (fun _ h => h) rfl dX3_loadFrom_12 ?_
      refine g_iload_n hC 3 dX3_loadFrom_15 rfl rfl ?_
      refine g_aload_n hC 1 dX3_loadFrom_16 rfl rfl ?_
      refine g_iload_n hC 2 dX3_loadFrom_17 rfl rfl ?_
      refine g_bipush (v := nI 20) hC dX3_loadFrom_18 (by decide +kernel) ?_
      refine g_imul_n (a := num) (b := 20) hC dX3_loadFrom_20 ?_
      refine g_iload_n hC 3 dX3_loadFrom_21 rfl rfl ?_
      refine g_iadd_n (a := (num * 20)) (b := i) hC dX3_loadFrom_22 ?_
      refine g_callSNip (As := [.ref hk, .int (nI (num * 20 + i))]) (rest := [.int (nI i), .ref hc]) hC (f (num * 20 + i)) (c_X5_cell l D cI cZ hk mm f (num * 20 + i) (by first | assumption | omega) (by first | assumption | omega)) ⟨va_cnB 2 hC.1.2.2.2.2 gX3_loadFrom_X5_cell_n40 rfl rfl rfl (hC.2.2.1.m 9 rfl) w3 dS_X5_cell ⟨Nat.le_of_ble_eq_true rfl, Nat.le_of_ble_eq_true rfl⟩, w2, trivial⟩ rfl rfl (Nat.le_of_ble_eq_true rfl) dX3_loadFrom_23 ⟨Nat.le_of_ble_eq_true rfl, Nat.le_of_ble_eq_true rfl⟩ [2] rfl rfl ?_
      refine g_iast hC 1 rfl i rfl (by omega) (by decide) [(hs, .inr (3, [.ref hp, .ref hc])), (hc, .inl (cI, 20, .inl (upd g i (f (num * 20 + i))))), (hk, .inl (cI, mm, .inl f))] rfl dX3_loadFrom_26 ?_
      refine g_iinc (v := nI (i + 1)) (lv' := [(0, .ref hs), (1, .ref hk), (2, .int (nI num)), (3, .int (nI (i + 1)))]) hC 3 [1, 2, 3, 0] dX3_loadFrom_27 rfl (nI_add _ 1) (by decide) rfl ?_
      refine g_goto hC 2 dX3_loadFrom_30 (by decide) ?_
      refine ih2 (i + 1) (upd g i (f (num * 20 + i))) ?_ ?_ ?_
      · omega
      · show upd g i _ = upd (wrG c 0 (fun k => f (num * 20 + k)) i) (0 + i) (f (num * 20 + i))
        rw [Nat.zero_add, hg]
      · omega
  refine L2 _ 0 c ?_ ?_ (Nat.lt_succ_self _)
  · omega
  · rfl

abbrev rm_X3_copy : Room := { frames := 2, cells := 0, slots := 0, locals := 45 }
set_option maxRecDepth 100000 in
set_option maxHeartbeats 4000000 in
theorem c_X3_copy (l : Launch) (D : va_G) (cI cZ : ClassId) (hs : Nat) (hp : Nat) (hc : Nat) (c : Nat → Int32) (hs2 : Nat) (hp2 : Nat) (hc2 : Nat) (c2 : Nat → Int32) : CtV l yX3_copy wsX3_copy rm_X3_copy D cI cZ [.ref hs, .ref hs2] [(hs, .inr (3, [.ref hp, .ref hc])), (hc, .inl (cI, 20, .inl c)), (hs2, .inr (3, [.ref hp2, .ref hc2])), (hc2, .inl (cI, 20, .inl c2))] (fun (_ : Unit) => True) (fun (_ : Unit) => [(hs, .inr (3, [.ref hp, .ref hc])), (hc, .inl (cI, 20, .inl c2)), (hs2, .inr (3, [.ref hp2, .ref hc2])), (hc2, .inl (cI, 20, .inl c2))]) 0 0 := by
  refine g_startV (ret := none) (own := RX3) (lv0 := [(0, .ref hs), (1, .ref hs2)]) (by decide) rfl rfl (Nat.le_of_ble_eq_true rfl) rfl ?_
  intro p e s m args below meth cd A Q hin hr hQ hC
  have hcw3 : ∀ w ∈ wsX30, w ∈ wsX3_copy := fun _ h => List.mem_cons_of_mem _ (List.mem_append_right _ h)
  have w1 := hC.1.2.2.2.2 (.fieldLink "PluckBroker$State" 11 "PluckBroker$State" "cells" "[I") (List.mem_of_getElem? (i := 1) rfl)
  refine g_aload_n hC 1 dX3_copy_0 rfl rfl ?_
  refine g_aload_n hC 0 dX3_copy_1 rfl rfl ?_
  refine g_get (C := RX3) (T := TX3) (N := 2) (ci := 3) (v := .ref hc) hC hcw3 0 rfl rfl 1 (by decide) w1 (fun _ h => h) rfl dX3_copy_2 ?_
  refine g_iconst (v := nI 0) hC dX3_copy_5 rfl ?_
  refine g_callVv (As := [.ref hc, .int (nI 0)]) (rest := []) hC (c_X3_saveTo l D cI cZ hs2 hp2 hc2 c2 hc 20 c 0 (by first | assumption | omega) (by first | assumption | omega)) (cwV 2 hC.1.2.2.2.2 gX3_copy_X3_saveTo rfl rfl rfl dV_X3_saveTo ⟨Nat.le_of_ble_eq_true rfl, Nat.le_of_ble_eq_true rfl⟩) rfl rfl rfl rfl (Nat.le_of_ble_eq_true rfl) dX3_copy_6 ⟨Nat.le_of_ble_eq_true rfl, Nat.le_of_ble_eq_true rfl⟩ [2, 3, 1] [0] [0, 3, 1, 2] (fun (_ : Unit) => [(hs, .inr (3, [.ref hp, .ref hc])), (hc, .inl (cI, 20, .inl (saveF c c2 0))), (hs2, .inr (3, [.ref hp2, .ref hc2])), (hc2, .inl (cI, 20, .inl c2))]) rfl rfl rfl (fun _ => rfl) (fun z6 hp6 => ?_)
  refine g_is (ws2 := [(hs, .inr (3, [.ref hp, .ref hc])), (hc, .inl (cI, 20, .inl (saveF c c2 0))), (hs2, .inr (3, [.ref hp2, .ref hc2])), (hc2, .inl (cI, 20, .inl c2))]) (lv2 := [(0, .ref hs), (1, .ref hs2)]) (st2 := []) rfl rfl rfl ?_
  refine g_arr (f2 := c2) 1 rfl (fun j hj => by unfold saveF; rw [if_pos (by omega)]; rfl) [(hs, .inr (3, [.ref hp, .ref hc])), (hc, .inl (cI, 20, .inl c2)), (hs2, .inr (3, [.ref hp2, .ref hc2])), (hc2, .inl (cI, 20, .inl c2))] rfl ?_
  subst hQ
  refine g_vret hC () hr ?_ rfl dX3_copy_9
  trivial

abbrev rm_X3_dearestOf : Room := { frames := 2, cells := 0, slots := 0, locals := 42 }
set_option maxRecDepth 100000 in
set_option maxHeartbeats 4000000 in
theorem c_X3_dearestOf (l : Launch) (D : va_G) (cI cZ : ClassId) (hs : Nat) (hp : Nat) (hc : Nat) (c : Nat → Int32) (r : Nat → Nat) (ti : Int32) (np : Nat) (nq : Nat) (nd : Nat) (P : Nat → Nat → Nat) (a : Int32) (hW : WFP np nq nd P) : CtI l yX3_dearestOf wsX3_dearestOf rm_X3_dearestOf D cI cZ [.ref hs, .int a] [(hs, .inr (3, [.ref hp, .ref hc])), (hc, .inl (cI, 20, .inl c)), (hp, o2 r ti np nq nd), (r 1, .inl (cI, 5, .inl (fun k_ => nI (P 0 k_)))), (r 2, .inl (cI, 5, .inl (fun k_ => nI (P 1 k_)))), (r 3, .inl (cI, 5, .inl (fun k_ => nI (P 2 k_)))), (r 4, .inl (cI, 5, .inl (fun k_ => nI (P 3 k_)))), (r 5, .inl (cI, 5, .inl (fun k_ => nI (P 4 k_)))), (r 6, .inl (cI, 5, .inl (fun k_ => nI (P 5 k_))))] (fun r (_ : Unit) => r = oI (dear P c a nq)) (fun (_ : Unit) => [(hs, .inr (3, [.ref hp, .ref hc])), (hc, .inl (cI, 20, .inl c)), (hp, o2 r ti np nq nd), (r 1, .inl (cI, 5, .inl (fun k_ => nI (P 0 k_)))), (r 2, .inl (cI, 5, .inl (fun k_ => nI (P 1 k_)))), (r 3, .inl (cI, 5, .inl (fun k_ => nI (P 2 k_)))), (r 4, .inl (cI, 5, .inl (fun k_ => nI (P 3 k_)))), (r 5, .inl (cI, 5, .inl (fun k_ => nI (P 4 k_)))), (r 6, .inl (cI, 5, .inl (fun k_ => nI (P 5 k_))))]) 0 0 := by
  refine g_startI (ret := (some .int)) (own := RX3) (lv0 := [(0, .ref hs), (1, .int a)]) (by decide) rfl rfl (Nat.le_of_ble_eq_true rfl) rfl ?_
  intro p e s m args below meth cd A Q hin hr hQ hC
  have hcw2 : ∀ w ∈ wsX20, w ∈ wsX3_dearestOf := fun _ h => List.mem_cons_of_mem _ (List.mem_append_right _ h)
  have hcw3 : ∀ w ∈ wsX30, w ∈ wsX3_dearestOf := fun _ h => List.mem_cons_of_mem _ (List.mem_append_left _ (List.mem_append_right _ h))
  have w1 := hC.1.2.2.2.2 (.fieldLink "PluckBroker$State" 15 "PluckBroker$State" "plan" "LPluckBroker$Plan;") (List.mem_of_getElem? (i := 1) rfl)
  obtain ⟨⟨hnp, hnq, hnd⟩, hq4, hd5⟩ := id hW
  have hw9 : ∀ q, q < nq → P 1 q ≤ 9 := fun q h => (hq4 q h).2.2.1
  refine g_bipush (v := (-9)) hC dX3_dearestOf_0 (by decide +kernel) ?_
  refine g_istore_n (lv' := [(0, .ref hs), (1, .int a), (2, .int (-9))]) hC [1, 2, 0] dX3_dearestOf_2 rfl (by decide) rfl ?_
  refine g_iconst (v := nI 0) hC dX3_dearestOf_3 rfl ?_
  refine g_istore_n (lv' := [(0, .ref hs), (1, .int a), (2, .int (-9)), (3, .int (nI 0))]) hC [1, 2, 3, 0] dX3_dearestOf_4 rfl (by decide) rfl ?_
  have L5 : ∀ (n : Nat) (i : Nat) (x : Int32), (i ≤ nq) → (x = oI (dear P c a i)) → nq - i < n → G p l e rm_X3_dearestOf s m args below meth cd D A 0 0 Q 5 [(hs, .inr (3, [.ref hp, .ref hc])), (hc, .inl (cI, 20, .inl c)), (hp, o2 r ti np nq nd), (r 1, .inl (cI, 5, .inl (fun k_ => nI (P 0 k_)))), (r 2, .inl (cI, 5, .inl (fun k_ => nI (P 1 k_)))), (r 3, .inl (cI, 5, .inl (fun k_ => nI (P 2 k_)))), (r 4, .inl (cI, 5, .inl (fun k_ => nI (P 3 k_)))), (r 5, .inl (cI, 5, .inl (fun k_ => nI (P 4 k_)))), (r 6, .inl (cI, 5, .inl (fun k_ => nI (P 5 k_))))] 5 [(0, .ref hs), (1, .int a), (2, .int x), (3, .int (nI i))] [] := by
    intro n
    induction n with
    | zero => intro i x hi hx hn; exact absurd hn (Nat.not_lt_zero _)
    | succ n ih5 =>
      intro i x hi hx hn
      refine g_iload_n hC 3 dX3_dearestOf_5 rfl rfl ?_
      refine g_aload_n hC 0 dX3_dearestOf_6 rfl rfl ?_
      refine g_get (C := RX3) (T := TX3) (N := 2) (ci := 3) (v := .ref hp) hC hcw3 0 rfl rfl 0 (by decide) w1 (fun _ h => h) rfl dX3_dearestOf_7 ?_
      refine g_getN (C := RX2) (T := TX2) (N := 11) (ci := 2) (v := .int (nI nq)) hC hcw2 2 rfl rfl 9 (by decide) (hC.2.2.1.f 8 rfl) (fun _ h => h) rfl dX3_dearestOf_10 ?_
      refine g_icmp_ge_n (a := i) (b := nq) hC (by omega) (by omega) 81 dX3_dearestOf_13 (by decide) (fun h13t => ?_) (fun h13f => ?_)
      · refine g_iload_n hC 2 dX3_dearestOf_81 rfl rfl ?_
        subst hQ
        refine g_iret (v := x) hC () hr ?_ rfl dX3_dearestOf_82
        have ei : i = nq := by omega
        rw [ei] at hx; exact hx
      by_cases hd : dear P c a i = none
      · have elv : x = -9 := by rw [hx, hd]; rfl
        refine g_lve (congrArg (fun zz : Int32 => ([(0, .ref hs), (1, .int a), (2, .int zz), (3, .int (nI i))] : List (Nat × Value))) elv) ?_
        refine g_aload_n hC 0 dX3_dearestOf_16 rfl rfl ?_
        refine g_get (C := RX3) (T := TX3) (N := 2) (ci := 3) (v := .ref hp) hC hcw3 0 rfl rfl 0 (by decide) w1 (fun _ h => h) rfl dX3_dearestOf_17 ?_
        refine g_iload_n hC 3 dX3_dearestOf_20 rfl rfl ?_
        refine g_callVip (As := [.int (nI i)]) (rest := []) hC (nI (P 0 i)) (c_X2_ownerOf l D cI cZ hp r ti np nq nd P i (by first | assumption | omega)) (cwV 1 hC.1.2.2.2.2 gX3_dearestOf_X2_ownerOf rfl rfl rfl dV_X2_ownerOf ⟨Nat.le_of_ble_eq_true rfl, Nat.le_of_ble_eq_true rfl⟩) rfl rfl rfl rfl (Nat.le_of_ble_eq_true rfl) dX3_dearestOf_21 ⟨Nat.le_of_ble_eq_true rfl, Nat.le_of_ble_eq_true rfl⟩ [2, 3] rfl rfl ?_
        refine g_iload_n hC 1 dX3_dearestOf_24 rfl rfl ?_
        refine g_icmp_ne hC 40 dX3_dearestOf_25 (by decide) (fun h25t => ?_) (fun h25f => ?_)
        · refine g_iconst (v := nI 0) hC dX3_dearestOf_40 rfl ?_
          refine g_istore (lv' := [(0, .ref hs), (1, .int a), (2, .int (-9)), (3, .int (nI i)), (4, .int (nI 0))]) hC [1, 2, 3, 4, 0] dX3_dearestOf_41 (by decide) rfl ?_
          refine g_iload hC 4 dX3_dearestOf_43 rfl ?_
          refine g_if_eq_n (a := 0) hC (by omega) 75 dX3_dearestOf_45 (by decide) (fun _ => ?_) (fun q => absurd q (by decide))
          refine g_iinc (v := nI (i + 1)) (lv' := [(0, .ref hs), (1, .int a), (2, .int (-9)), (3, .int (nI (i + 1))), (4, .int (nI 0))]) hC 3 [1, 2, 3, 0, 4] dX3_dearestOf_75 rfl (nI_add _ 1) (by decide) rfl ?_
          refine g_goto hC 5 dX3_dearestOf_78 (by decide) ?_
          refine g_lv [0, 1, 2, 3] (lv2 := [(0, .ref hs), (1, .int a), (2, .int (-9)), (3, .int (nI (i + 1)))]) rfl ?_
          refine ih5 (i + 1) (-9) ?_ ?_ ?_
          · omega
          · have ed : dear P c a (i + 1) = if nI (P 0 i) = a ∧ c (5 + i) = nI 0 then some i else none := by
              show (match dear P c a i with | none => _ | some b => _) = _
              rw [hd]
            rw [ed, if_neg (fun q => h25t q.1)]; rfl
          · omega
        refine g_aload_n hC 0 dX3_dearestOf_28 rfl rfl ?_
        refine g_iload_n hC 3 dX3_dearestOf_29 rfl rfl ?_
        refine g_callVip (As := [.int (nI i)]) (rest := []) hC (c (5 + i)) (c_X3_standingOf l D cI cZ hs hp hc c i (by first | assumption | omega)) (cwV 1 hC.1.2.2.2.2 gX3_dearestOf_X3_standingOf rfl rfl rfl dV_X3_standingOf ⟨Nat.le_of_ble_eq_true rfl, Nat.le_of_ble_eq_true rfl⟩) rfl rfl rfl rfl (Nat.le_of_ble_eq_true rfl) dX3_dearestOf_30 ⟨Nat.le_of_ble_eq_true rfl, Nat.le_of_ble_eq_true rfl⟩ [0, 1] rfl rfl ?_
        refine g_if_ne hC 40 dX3_dearestOf_33 (by decide) (fun h33t => ?_) (fun h33f => ?_)
        · refine g_iconst (v := nI 0) hC dX3_dearestOf_40 rfl ?_
          refine g_istore (lv' := [(0, .ref hs), (1, .int a), (2, .int (-9)), (3, .int (nI i)), (4, .int (nI 0))]) hC [1, 2, 3, 4, 0] dX3_dearestOf_41 (by decide) rfl ?_
          refine g_iload hC 4 dX3_dearestOf_43 rfl ?_
          refine g_if_eq_n (a := 0) hC (by omega) 75 dX3_dearestOf_45 (by decide) (fun _ => ?_) (fun q => absurd q (by decide))
          refine g_iinc (v := nI (i + 1)) (lv' := [(0, .ref hs), (1, .int a), (2, .int (-9)), (3, .int (nI (i + 1))), (4, .int (nI 0))]) hC 3 [1, 2, 3, 0, 4] dX3_dearestOf_75 rfl (nI_add _ 1) (by decide) rfl ?_
          refine g_goto hC 5 dX3_dearestOf_78 (by decide) ?_
          refine g_lv [0, 1, 2, 3] (lv2 := [(0, .ref hs), (1, .int a), (2, .int (-9)), (3, .int (nI (i + 1)))]) rfl ?_
          refine ih5 (i + 1) (-9) ?_ ?_ ?_
          · omega
          · have ed : dear P c a (i + 1) = if nI (P 0 i) = a ∧ c (5 + i) = nI 0 then some i else none := by
              show (match dear P c a i with | none => _ | some b => _) = _
              rw [hd]
            rw [ed, if_neg (fun q => h33t q.2)]; rfl
          · omega
        refine g_iconst (v := nI 1) hC dX3_dearestOf_36 rfl ?_
        refine g_goto hC 41 dX3_dearestOf_37 (by decide) ?_
        refine g_istore (lv' := [(0, .ref hs), (1, .int a), (2, .int (-9)), (3, .int (nI i)), (4, .int (nI 1))]) hC [1, 2, 3, 4, 0] dX3_dearestOf_41 (by decide) rfl ?_
        refine g_iload hC 4 dX3_dearestOf_43 rfl ?_
        refine g_if_eq_n (a := 1) hC (by omega) 75 dX3_dearestOf_45 (by decide) (fun q => absurd q (by decide)) (fun _ => ?_)
        refine g_iload_n hC 2 dX3_dearestOf_48 rfl rfl ?_
        refine g_bipush (v := (-9)) hC dX3_dearestOf_49 (by decide +kernel) ?_
        refine g_icmp_eq hC 73 dX3_dearestOf_51 (by decide) (fun h51t => ?_) (fun h51f => ?_)
        · refine g_iload_n hC 3 dX3_dearestOf_73 rfl rfl ?_
          refine g_istore_n (lv' := [(0, .ref hs), (1, .int a), (2, .int (nI i)), (3, .int (nI i)), (4, .int (nI 1))]) hC [1, 2, 0, 3, 4] dX3_dearestOf_74 rfl (by decide) rfl ?_
          refine g_iinc (v := nI (i + 1)) (lv' := [(0, .ref hs), (1, .int a), (2, .int (nI i)), (3, .int (nI (i + 1))), (4, .int (nI 1))]) hC 3 [1, 2, 3, 0, 4] dX3_dearestOf_75 rfl (nI_add _ 1) (by decide) rfl ?_
          refine g_goto hC 5 dX3_dearestOf_78 (by decide) ?_
          refine g_lv [0, 1, 2, 3] (lv2 := [(0, .ref hs), (1, .int a), (2, .int (nI i)), (3, .int (nI (i + 1)))]) rfl ?_
          refine ih5 (i + 1) (nI i) ?_ ?_ ?_
          · omega
          · have ed : dear P c a (i + 1) = if nI (P 0 i) = a ∧ c (5 + i) = nI 0 then some i else none := by
              show (match dear P c a i with | none => _ | some b => _) = _
              rw [hd]
            rw [ed, if_pos ⟨h25f, h33f⟩]; rfl
          · omega
        exact absurd rfl h51f
      obtain ⟨b, hb⟩ := Option.ne_none_iff_exists'.mp hd
      have hbi := dear_lt P c a i b hb
      have hwb := hw9 b (by omega)
      have hwi := hw9 i (by omega)
      have elv : x = nI b := by rw [hx, hb]; rfl
      refine g_lve (congrArg (fun zz : Int32 => ([(0, .ref hs), (1, .int a), (2, .int zz), (3, .int (nI i))] : List (Nat × Value))) elv) ?_
      refine g_aload_n hC 0 dX3_dearestOf_16 rfl rfl ?_
      refine g_get (C := RX3) (T := TX3) (N := 2) (ci := 3) (v := .ref hp) hC hcw3 0 rfl rfl 0 (by decide) w1 (fun _ h => h) rfl dX3_dearestOf_17 ?_
      refine g_iload_n hC 3 dX3_dearestOf_20 rfl rfl ?_
      refine g_callVip (As := [.int (nI i)]) (rest := []) hC (nI (P 0 i)) (c_X2_ownerOf l D cI cZ hp r ti np nq nd P i (by first | assumption | omega)) (cwV 1 hC.1.2.2.2.2 gX3_dearestOf_X2_ownerOf rfl rfl rfl dV_X2_ownerOf ⟨Nat.le_of_ble_eq_true rfl, Nat.le_of_ble_eq_true rfl⟩) rfl rfl rfl rfl (Nat.le_of_ble_eq_true rfl) dX3_dearestOf_21 ⟨Nat.le_of_ble_eq_true rfl, Nat.le_of_ble_eq_true rfl⟩ [2, 3] rfl rfl ?_
      refine g_iload_n hC 1 dX3_dearestOf_24 rfl rfl ?_
      refine g_icmp_ne hC 40 dX3_dearestOf_25 (by decide) (fun h25t => ?_) (fun h25f => ?_)
      · refine g_iconst (v := nI 0) hC dX3_dearestOf_40 rfl ?_
        refine g_istore (lv' := [(0, .ref hs), (1, .int a), (2, .int (nI b)), (3, .int (nI i)), (4, .int (nI 0))]) hC [1, 2, 3, 4, 0] dX3_dearestOf_41 (by decide) rfl ?_
        refine g_iload hC 4 dX3_dearestOf_43 rfl ?_
        refine g_if_eq_n (a := 0) hC (by omega) 75 dX3_dearestOf_45 (by decide) (fun _ => ?_) (fun q => absurd q (by decide))
        refine g_iinc (v := nI (i + 1)) (lv' := [(0, .ref hs), (1, .int a), (2, .int (nI b)), (3, .int (nI (i + 1))), (4, .int (nI 0))]) hC 3 [1, 2, 3, 0, 4] dX3_dearestOf_75 rfl (nI_add _ 1) (by decide) rfl ?_
        refine g_goto hC 5 dX3_dearestOf_78 (by decide) ?_
        refine g_lv [0, 1, 2, 3] (lv2 := [(0, .ref hs), (1, .int a), (2, .int (nI b)), (3, .int (nI (i + 1)))]) rfl ?_
        refine ih5 (i + 1) (nI b) ?_ ?_ ?_
        · omega
        · have ed : dear P c a (i + 1) = if (nI (P 0 i) = a ∧ c (5 + i) = nI 0) ∧ P 1 b < P 1 i then some i else some b := by
            show (match dear P c a i with | none => _ | some b => _) = _
            rw [hb]
          rw [ed, if_neg (fun q => h25t q.1.1)]; rfl
        · omega
      refine g_aload_n hC 0 dX3_dearestOf_28 rfl rfl ?_
      refine g_iload_n hC 3 dX3_dearestOf_29 rfl rfl ?_
      refine g_callVip (As := [.int (nI i)]) (rest := []) hC (c (5 + i)) (c_X3_standingOf l D cI cZ hs hp hc c i (by first | assumption | omega)) (cwV 1 hC.1.2.2.2.2 gX3_dearestOf_X3_standingOf rfl rfl rfl dV_X3_standingOf ⟨Nat.le_of_ble_eq_true rfl, Nat.le_of_ble_eq_true rfl⟩) rfl rfl rfl rfl (Nat.le_of_ble_eq_true rfl) dX3_dearestOf_30 ⟨Nat.le_of_ble_eq_true rfl, Nat.le_of_ble_eq_true rfl⟩ [0, 1] rfl rfl ?_
      refine g_if_ne hC 40 dX3_dearestOf_33 (by decide) (fun h33t => ?_) (fun h33f => ?_)
      · refine g_iconst (v := nI 0) hC dX3_dearestOf_40 rfl ?_
        refine g_istore (lv' := [(0, .ref hs), (1, .int a), (2, .int (nI b)), (3, .int (nI i)), (4, .int (nI 0))]) hC [1, 2, 3, 4, 0] dX3_dearestOf_41 (by decide) rfl ?_
        refine g_iload hC 4 dX3_dearestOf_43 rfl ?_
        refine g_if_eq_n (a := 0) hC (by omega) 75 dX3_dearestOf_45 (by decide) (fun _ => ?_) (fun q => absurd q (by decide))
        refine g_iinc (v := nI (i + 1)) (lv' := [(0, .ref hs), (1, .int a), (2, .int (nI b)), (3, .int (nI (i + 1))), (4, .int (nI 0))]) hC 3 [1, 2, 3, 0, 4] dX3_dearestOf_75 rfl (nI_add _ 1) (by decide) rfl ?_
        refine g_goto hC 5 dX3_dearestOf_78 (by decide) ?_
        refine g_lv [0, 1, 2, 3] (lv2 := [(0, .ref hs), (1, .int a), (2, .int (nI b)), (3, .int (nI (i + 1)))]) rfl ?_
        refine ih5 (i + 1) (nI b) ?_ ?_ ?_
        · omega
        · have ed : dear P c a (i + 1) = if (nI (P 0 i) = a ∧ c (5 + i) = nI 0) ∧ P 1 b < P 1 i then some i else some b := by
            show (match dear P c a i with | none => _ | some b => _) = _
            rw [hb]
          rw [ed, if_neg (fun q => h33t q.1.2)]; rfl
        · omega
      refine g_iconst (v := nI 1) hC dX3_dearestOf_36 rfl ?_
      refine g_goto hC 41 dX3_dearestOf_37 (by decide) ?_
      refine g_istore (lv' := [(0, .ref hs), (1, .int a), (2, .int (nI b)), (3, .int (nI i)), (4, .int (nI 1))]) hC [1, 2, 3, 4, 0] dX3_dearestOf_41 (by decide) rfl ?_
      refine g_iload hC 4 dX3_dearestOf_43 rfl ?_
      refine g_if_eq_n (a := 1) hC (by omega) 75 dX3_dearestOf_45 (by decide) (fun q => absurd q (by decide)) (fun _ => ?_)
      refine g_iload_n hC 2 dX3_dearestOf_48 rfl rfl ?_
      refine g_bipush (v := (-9)) hC dX3_dearestOf_49 (by decide +kernel) ?_
      refine g_icmp_eq hC 73 dX3_dearestOf_51 (by decide) (fun h51t => ?_) (fun h51f => ?_)
      · exact absurd h51t (nI_ne9 (by omega))
      refine g_aload_n hC 0 dX3_dearestOf_54 rfl rfl ?_
      refine g_get (C := RX3) (T := TX3) (N := 2) (ci := 3) (v := .ref hp) hC hcw3 0 rfl rfl 0 (by decide) w1 (fun _ h => h) rfl dX3_dearestOf_55 ?_
      refine g_iload_n hC 3 dX3_dearestOf_58 rfl rfl ?_
      refine g_callVip (As := [.int (nI i)]) (rest := []) hC (nI (P 1 i)) (c_X2_worthOf l D cI cZ hp r ti np nq nd P i (by first | assumption | omega)) (cwV 1 hC.1.2.2.2.2 gX3_dearestOf_X2_worthOf rfl rfl rfl dV_X2_worthOf ⟨Nat.le_of_ble_eq_true rfl, Nat.le_of_ble_eq_true rfl⟩) rfl rfl rfl rfl (Nat.le_of_ble_eq_true rfl) dX3_dearestOf_59 ⟨Nat.le_of_ble_eq_true rfl, Nat.le_of_ble_eq_true rfl⟩ [2, 4] rfl rfl ?_
      refine g_aload_n hC 0 dX3_dearestOf_62 rfl rfl ?_
      refine g_get (C := RX3) (T := TX3) (N := 2) (ci := 3) (v := .ref hp) hC hcw3 0 rfl rfl 0 (by decide) w1 (fun _ h => h) rfl dX3_dearestOf_63 ?_
      refine g_iload_n hC 2 dX3_dearestOf_66 rfl rfl ?_
      refine g_callVip (As := [.int (nI b)]) (rest := [.int (nI (P 1 i))]) hC (nI (P 1 b)) (c_X2_worthOf l D cI cZ hp r ti np nq nd P b (by first | assumption | omega)) (cwV 1 hC.1.2.2.2.2 gX3_dearestOf_X2_worthOf rfl rfl rfl dV_X2_worthOf ⟨Nat.le_of_ble_eq_true rfl, Nat.le_of_ble_eq_true rfl⟩) rfl rfl rfl rfl (Nat.le_of_ble_eq_true rfl) dX3_dearestOf_67 ⟨Nat.le_of_ble_eq_true rfl, Nat.le_of_ble_eq_true rfl⟩ [2, 4] rfl rfl ?_
      refine g_icmp_le_n (a := (P 1 i)) (b := (P 1 b)) hC (by omega) (by omega) 75 dX3_dearestOf_70 (by decide) (fun h70t => ?_) (fun h70f => ?_)
      · refine g_iinc (v := nI (i + 1)) (lv' := [(0, .ref hs), (1, .int a), (2, .int (nI b)), (3, .int (nI (i + 1))), (4, .int (nI 1))]) hC 3 [1, 2, 3, 0, 4] dX3_dearestOf_75 rfl (nI_add _ 1) (by decide) rfl ?_
        refine g_goto hC 5 dX3_dearestOf_78 (by decide) ?_
        refine g_lv [0, 1, 2, 3] (lv2 := [(0, .ref hs), (1, .int a), (2, .int (nI b)), (3, .int (nI (i + 1)))]) rfl ?_
        refine ih5 (i + 1) (nI b) ?_ ?_ ?_
        · omega
        · have ed : dear P c a (i + 1) = if (nI (P 0 i) = a ∧ c (5 + i) = nI 0) ∧ P 1 b < P 1 i then some i else some b := by
            show (match dear P c a i with | none => _ | some b => _) = _
            rw [hb]
          rw [ed, if_neg (fun q => absurd q.2 (by omega))]; rfl
        · omega
      refine g_iload_n hC 3 dX3_dearestOf_73 rfl rfl ?_
      refine g_istore_n (lv' := [(0, .ref hs), (1, .int a), (2, .int (nI i)), (3, .int (nI i)), (4, .int (nI 1))]) hC [1, 2, 0, 3, 4] dX3_dearestOf_74 rfl (by decide) rfl ?_
      refine g_iinc (v := nI (i + 1)) (lv' := [(0, .ref hs), (1, .int a), (2, .int (nI i)), (3, .int (nI (i + 1))), (4, .int (nI 1))]) hC 3 [1, 2, 3, 0, 4] dX3_dearestOf_75 rfl (nI_add _ 1) (by decide) rfl ?_
      refine g_goto hC 5 dX3_dearestOf_78 (by decide) ?_
      refine g_lv [0, 1, 2, 3] (lv2 := [(0, .ref hs), (1, .int a), (2, .int (nI i)), (3, .int (nI (i + 1)))]) rfl ?_
      refine ih5 (i + 1) (nI i) ?_ ?_ ?_
      · omega
      · have ed : dear P c a (i + 1) = if (nI (P 0 i) = a ∧ c (5 + i) = nI 0) ∧ P 1 b < P 1 i then some i else some b := by
          show (match dear P c a i with | none => _ | some b => _) = _
          rw [hb]
        rw [ed, if_pos ⟨⟨h25f, h33f⟩, by omega⟩]; rfl
      · omega
  refine L5 _ 0 (-9) ?_ ?_ (Nat.lt_succ_self _)
  · omega
  · rfl

abbrev rm_X3_goesThrough : Room := { frames := 5, cells := 0, slots := 0, locals := 106 }
set_option maxRecDepth 100000 in
set_option maxHeartbeats 8000000 in
theorem c_X3_goesThrough (l : Launch) (D : va_G) (cI cZ : ClassId) (hs : Nat) (hp : Nat) (hc : Nat) (c : Nat → Int32) (r : Nat → Nat) (ti : Int32) (np : Nat) (nq : Nat) (nd : Nat) (P : Nat → Nat → Nat) (x : Nat) (y : Nat) (z : Nat) (hW : WFP np nq nd P) (hx : x < 10) (hy : y < 10) (hz : z < 10) : CtI l yX3_goesThrough wsX3_goesThrough rm_X3_goesThrough D cI cZ [.ref hs, .int (nI x), .int (nI y), .int (nI z)] [(hs, .inr (3, [.ref hp, .ref hc])), (hc, .inl (cI, 20, .inl c)), (hp, o2 r ti np nq nd), (r 1, .inl (cI, 5, .inl (fun k_ => nI (P 0 k_)))), (r 2, .inl (cI, 5, .inl (fun k_ => nI (P 1 k_)))), (r 3, .inl (cI, 5, .inl (fun k_ => nI (P 2 k_)))), (r 4, .inl (cI, 5, .inl (fun k_ => nI (P 3 k_)))), (r 5, .inl (cI, 5, .inl (fun k_ => nI (P 4 k_)))), (r 6, .inl (cI, 5, .inl (fun k_ => nI (P 5 k_))))] (fun r (_ : Unit) => r = bI (doOK P np nq nd c x y z)) (fun (_ : Unit) => [(hs, .inr (3, [.ref hp, .ref hc])), (hc, .inl (cI, 20, .inl (doF P np nq nd c x y z))), (hp, o2 r ti np nq nd), (r 1, .inl (cI, 5, .inl (fun k_ => nI (P 0 k_)))), (r 2, .inl (cI, 5, .inl (fun k_ => nI (P 1 k_)))), (r 3, .inl (cI, 5, .inl (fun k_ => nI (P 2 k_)))), (r 4, .inl (cI, 5, .inl (fun k_ => nI (P 3 k_)))), (r 5, .inl (cI, 5, .inl (fun k_ => nI (P 4 k_)))), (r 6, .inl (cI, 5, .inl (fun k_ => nI (P 5 k_))))]) 0 0 := by
  refine g_startI (ret := (some .boolean)) (own := RX3) (lv0 := [(0, .ref hs), (1, .int (nI x)), (2, .int (nI y)), (3, .int (nI z))]) (by decide) rfl rfl (Nat.le_of_ble_eq_true rfl) rfl ?_
  intro p e s m args below meth cd A Q hin hr hQ hC
  have hcw3 : ∀ w ∈ wsX30, w ∈ wsX3_goesThrough := fun _ h => List.mem_cons_of_mem _ (List.mem_append_left _ (List.mem_append_right _ h))
  have w1 := hC.1.2.2.2.2 (.fieldLink "PluckBroker$State" 15 "PluckBroker$State" "plan" "LPluckBroker$Plan;") (List.mem_of_getElem? (i := 1) rfl)
  obtain ⟨⟨hnp, hnq, hnd⟩, hq4, hd5⟩ := id hW
  refine g_iload_n hC 1 dX3_goesThrough_0 rfl rfl ?_
  refine g_iconst (v := nI 3) hC dX3_goesThrough_1 rfl ?_
  refine g_icmp_ne_n (a := x) (b := 3) hC (by omega) (by omega) 12 dX3_goesThrough_2 (by decide) (fun h2t => ?_) (fun h2f => ?_)
  · refine g_iload_n hC 1 dX3_goesThrough_12 rfl rfl ?_
    refine g_iconst (v := nI 5) hC dX3_goesThrough_13 rfl ?_
    refine g_icmp_ne_n (a := x) (b := 5) hC (by omega) (by omega) 43 dX3_goesThrough_14 (by decide) (fun h14t => ?_) (fun h14f => ?_)
    · refine g_iload_n hC 2 dX3_goesThrough_43 rfl rfl ?_
      refine g_if_eq_n (a := y) hC (by omega) 49 dX3_goesThrough_44 (by decide) (fun h44t => ?_) (fun h44f => ?_)
      · have hy0 := h44t
        refine g_iload_n hC 1 dX3_goesThrough_49 rfl rfl ?_
        by_cases k50_0 : x = 0
        · refine g_top (y := nI 0) (by rw [k50_0]) ?_
          refine g_tableIn (off := 34) hC 84 dX3_goesThrough_50 (by decide +kernel) (by decide +kernel) (by decide +kernel) (by decide) ?_
          refine g_iload_n hC 3 dX3_goesThrough_84 rfl rfl ?_
          refine g_if_ne_n (a := z) hC (by omega) 93 dX3_goesThrough_85 (by decide) (fun h85t => ?_) (fun h85f => ?_)
          · refine g_iload_n hC 3 dX3_goesThrough_93 rfl rfl ?_
            refine g_if_ne_n (a := z) hC (by omega) 101 dX3_goesThrough_94 (by decide) (fun h94t => ?_) (fun h94f => ?_)
            · refine g_iconst (v := nI 0) hC dX3_goesThrough_101 rfl ?_
              have hk : doOK P np nq nd c x y z ↔ z = 0 := by rw [k50_0, hy0]; exact do0
              have ecell : c = (doF P np nq nd c x y z) := by rw [doF_no (fun w => h94t (hk.mp w))]
              refine g_ws (ws2 := [(hs, .inr (3, [.ref hp, .ref hc])), (hc, .inl (cI, 20, .inl (doF P np nq nd c x y z))), (hp, o2 r ti np nq nd), (r 1, .inl (cI, 5, .inl (fun k_ => nI (P 0 k_)))), (r 2, .inl (cI, 5, .inl (fun k_ => nI (P 1 k_)))), (r 3, .inl (cI, 5, .inl (fun k_ => nI (P 2 k_)))), (r 4, .inl (cI, 5, .inl (fun k_ => nI (P 3 k_)))), (r 5, .inl (cI, 5, .inl (fun k_ => nI (P 4 k_)))), (r 6, .inl (cI, 5, .inl (fun k_ => nI (P 5 k_))))]) (congrArg (fun zz : Nat → Int32 => ([(hs, .inr (3, [.ref hp, .ref hc])), (hc, .inl (cI, 20, .inl zz)), (hp, o2 r ti np nq nd), (r 1, .inl (cI, 5, .inl (fun k_ => nI (P 0 k_)))), (r 2, .inl (cI, 5, .inl (fun k_ => nI (P 1 k_)))), (r 3, .inl (cI, 5, .inl (fun k_ => nI (P 2 k_)))), (r 4, .inl (cI, 5, .inl (fun k_ => nI (P 3 k_)))), (r 5, .inl (cI, 5, .inl (fun k_ => nI (P 4 k_)))), (r 6, .inl (cI, 5, .inl (fun k_ => nI (P 5 k_))))] : va_W)) ecell) ?_
              subst hQ
              refine g_zret (v := nI 0) hC () hr (by decide +kernel) ?_ rfl dX3_goesThrough_102
              exact (bI_f (fun w => h94t (hk.mp w))).symm
            exact absurd h94f h85t
          refine g_aload_n hC 0 dX3_goesThrough_88 rfl rfl ?_
          refine g_callVi (As := []) (rest := []) hC (c_X3_passDay l D cI cZ hs hp hc c r ti np nq nd P (by first | assumption | omega)) (cwV 0 hC.1.2.2.2.2 gX3_goesThrough_X3_passDay rfl rfl rfl dV_X3_passDay ⟨Nat.le_of_ble_eq_true rfl, Nat.le_of_ble_eq_true rfl⟩) rfl rfl rfl rfl (Nat.le_of_ble_eq_true rfl) dX3_goesThrough_89 ⟨Nat.le_of_ble_eq_true rfl, Nat.le_of_ble_eq_true rfl⟩ [0, 1, 2, 3, 4, 5, 6, 7, 8] [] [0, 1, 2, 3, 4, 5, 6, 7, 8] (fun (_ : Unit) => [(hs, .inr (3, [.ref hp, .ref hc])), (hc, .inl (cI, 20, .inl (passF P nq nd c))), (hp, o2 r ti np nq nd), (r 1, .inl (cI, 5, .inl (fun k_ => nI (P 0 k_)))), (r 2, .inl (cI, 5, .inl (fun k_ => nI (P 1 k_)))), (r 3, .inl (cI, 5, .inl (fun k_ => nI (P 2 k_)))), (r 4, .inl (cI, 5, .inl (fun k_ => nI (P 3 k_)))), (r 5, .inl (cI, 5, .inl (fun k_ => nI (P 4 k_)))), (r 6, .inl (cI, 5, .inl (fun k_ => nI (P 5 k_))))]) rfl rfl rfl (fun _ => rfl) (fun r89 z89 hp89 => ?_)
          try dsimp only at hp89
          subst hp89
          refine g_is (ws2 := [(hs, .inr (3, [.ref hp, .ref hc])), (hc, .inl (cI, 20, .inl (passF P nq nd c))), (hp, o2 r ti np nq nd), (r 1, .inl (cI, 5, .inl (fun k_ => nI (P 0 k_)))), (r 2, .inl (cI, 5, .inl (fun k_ => nI (P 1 k_)))), (r 3, .inl (cI, 5, .inl (fun k_ => nI (P 2 k_)))), (r 4, .inl (cI, 5, .inl (fun k_ => nI (P 3 k_)))), (r 5, .inl (cI, 5, .inl (fun k_ => nI (P 4 k_)))), (r 6, .inl (cI, 5, .inl (fun k_ => nI (P 5 k_))))]) (lv2 := [(0, .ref hs), (1, .int (nI x)), (2, .int (nI y)), (3, .int (nI z))]) (st2 := [.int (nI (cntD P c nd))]) rfl rfl rfl ?_
          refine g_pop hC dX3_goesThrough_92 rfl ?_
          refine g_iload_n hC 3 dX3_goesThrough_93 rfl rfl ?_
          refine g_if_ne_n (a := z) hC (by omega) 101 dX3_goesThrough_94 (by decide) (fun h94t => ?_) (fun h94f => ?_)
          · exact absurd h85f h94t
          refine g_iconst (v := nI 1) hC dX3_goesThrough_97 rfl ?_
          refine g_goto hC 102 dX3_goesThrough_98 (by decide) ?_
          have hk : doOK P np nq nd c x y z ↔ z = 0 := by rw [k50_0, hy0]; exact do0
          have ecell : (passF P nq nd c) = (doF P np nq nd c x y z) := by rw [k50_0, hy0, h94f]; exact do0f.symm
          refine g_ws (ws2 := [(hs, .inr (3, [.ref hp, .ref hc])), (hc, .inl (cI, 20, .inl (doF P np nq nd c x y z))), (hp, o2 r ti np nq nd), (r 1, .inl (cI, 5, .inl (fun k_ => nI (P 0 k_)))), (r 2, .inl (cI, 5, .inl (fun k_ => nI (P 1 k_)))), (r 3, .inl (cI, 5, .inl (fun k_ => nI (P 2 k_)))), (r 4, .inl (cI, 5, .inl (fun k_ => nI (P 3 k_)))), (r 5, .inl (cI, 5, .inl (fun k_ => nI (P 4 k_)))), (r 6, .inl (cI, 5, .inl (fun k_ => nI (P 5 k_))))]) (congrArg (fun zz : Nat → Int32 => ([(hs, .inr (3, [.ref hp, .ref hc])), (hc, .inl (cI, 20, .inl zz)), (hp, o2 r ti np nq nd), (r 1, .inl (cI, 5, .inl (fun k_ => nI (P 0 k_)))), (r 2, .inl (cI, 5, .inl (fun k_ => nI (P 1 k_)))), (r 3, .inl (cI, 5, .inl (fun k_ => nI (P 2 k_)))), (r 4, .inl (cI, 5, .inl (fun k_ => nI (P 3 k_)))), (r 5, .inl (cI, 5, .inl (fun k_ => nI (P 4 k_)))), (r 6, .inl (cI, 5, .inl (fun k_ => nI (P 5 k_))))] : va_W)) ecell) ?_
          subst hQ
          refine g_zret (v := nI 1) hC () hr (by decide +kernel) ?_ rfl dX3_goesThrough_102
          exact (bI_t (hk.mpr h94f)).symm
        by_cases k50_1 : x = 1
        · refine g_top (y := nI 1) (by rw [k50_1]) ?_
          refine g_tableIn (off := 53) hC 103 dX3_goesThrough_50 (by decide +kernel) (by decide +kernel) (by decide +kernel) (by decide) ?_
          by_cases hv : z < nq
          · refine g_aload_n hC 0 dX3_goesThrough_103 rfl rfl ?_
            refine g_iload_n hC 3 dX3_goesThrough_104 rfl rfl ?_
            refine g_callVi (As := [.int (nI z)]) (rest := []) hC (c_X3_tryPledge l D cI cZ hs hp hc c r ti np nq nd P z (by first | assumption | omega) (by first | assumption | omega)) (cwV 1 hC.1.2.2.2.2 gX3_goesThrough_X3_tryPledge rfl rfl rfl dV_X3_tryPledge ⟨Nat.le_of_ble_eq_true rfl, Nat.le_of_ble_eq_true rfl⟩) rfl rfl rfl rfl (Nat.le_of_ble_eq_true rfl) dX3_goesThrough_105 ⟨Nat.le_of_ble_eq_true rfl, Nat.le_of_ble_eq_true rfl⟩ [0, 1, 2, 3, 4, 5, 6, 7, 8] [] [0, 1, 2, 3, 4, 5, 6, 7, 8] (fun (_ : Unit) => [(hs, .inr (3, [.ref hp, .ref hc])), (hc, .inl (cI, 20, .inl (tryP P c z))), (hp, o2 r ti np nq nd), (r 1, .inl (cI, 5, .inl (fun k_ => nI (P 0 k_)))), (r 2, .inl (cI, 5, .inl (fun k_ => nI (P 1 k_)))), (r 3, .inl (cI, 5, .inl (fun k_ => nI (P 2 k_)))), (r 4, .inl (cI, 5, .inl (fun k_ => nI (P 3 k_)))), (r 5, .inl (cI, 5, .inl (fun k_ => nI (P 4 k_)))), (r 6, .inl (cI, 5, .inl (fun k_ => nI (P 5 k_))))]) rfl rfl rfl (fun _ => rfl) (fun r105 z105 hp105 => ?_)
            try dsimp only at hp105
            subst hp105
            refine g_is (ws2 := [(hs, .inr (3, [.ref hp, .ref hc])), (hc, .inl (cI, 20, .inl (tryP P c z))), (hp, o2 r ti np nq nd), (r 1, .inl (cI, 5, .inl (fun k_ => nI (P 0 k_)))), (r 2, .inl (cI, 5, .inl (fun k_ => nI (P 1 k_)))), (r 3, .inl (cI, 5, .inl (fun k_ => nI (P 2 k_)))), (r 4, .inl (cI, 5, .inl (fun k_ => nI (P 3 k_)))), (r 5, .inl (cI, 5, .inl (fun k_ => nI (P 4 k_)))), (r 6, .inl (cI, 5, .inl (fun k_ => nI (P 5 k_))))]) (lv2 := [(0, .ref hs), (1, .int (nI x)), (2, .int (nI y)), (3, .int (nI z))]) (st2 := [.int (bI (canP P c z))]) rfl rfl rfl ?_
            have hk : doOK P np nq nd c x y z ↔ canP P c z := by rw [k50_1, hy0]; exact do1 hv
            have ecell : (tryP P c z) = (doF P np nq nd c x y z) := by rw [k50_1, hy0]; exact (do1f hv).symm
            refine g_ws (ws2 := [(hs, .inr (3, [.ref hp, .ref hc])), (hc, .inl (cI, 20, .inl (doF P np nq nd c x y z))), (hp, o2 r ti np nq nd), (r 1, .inl (cI, 5, .inl (fun k_ => nI (P 0 k_)))), (r 2, .inl (cI, 5, .inl (fun k_ => nI (P 1 k_)))), (r 3, .inl (cI, 5, .inl (fun k_ => nI (P 2 k_)))), (r 4, .inl (cI, 5, .inl (fun k_ => nI (P 3 k_)))), (r 5, .inl (cI, 5, .inl (fun k_ => nI (P 4 k_)))), (r 6, .inl (cI, 5, .inl (fun k_ => nI (P 5 k_))))]) (congrArg (fun zz : Nat → Int32 => ([(hs, .inr (3, [.ref hp, .ref hc])), (hc, .inl (cI, 20, .inl zz)), (hp, o2 r ti np nq nd), (r 1, .inl (cI, 5, .inl (fun k_ => nI (P 0 k_)))), (r 2, .inl (cI, 5, .inl (fun k_ => nI (P 1 k_)))), (r 3, .inl (cI, 5, .inl (fun k_ => nI (P 2 k_)))), (r 4, .inl (cI, 5, .inl (fun k_ => nI (P 3 k_)))), (r 5, .inl (cI, 5, .inl (fun k_ => nI (P 4 k_)))), (r 6, .inl (cI, 5, .inl (fun k_ => nI (P 5 k_))))] : va_W)) ecell) ?_
            refine g_top (y := bI (doOK P np nq nd c x y z)) (bI_iff hk.symm) ?_
            subst hQ
            refine g_zret (v := bI (doOK P np nq nd c x y z)) hC () hr bI_nar ?_ rfl dX3_goesThrough_108
            rfl
          refine g_aload_n hC 0 dX3_goesThrough_103 rfl rfl ?_
          refine g_iload_n hC 3 dX3_goesThrough_104 rfl rfl ?_
          refine g_callVip (As := [.int (nI z)]) (rest := []) hC (nI 0) (c_X3_tryPledge_no l D cI cZ hs hp hc c r ti np nq nd P (nI z) (by first | assumption | omega) (fun q => hv ((inR_kn (by omega) (by omega)).mp q))) (cwV 1 hC.1.2.2.2.2 gX3_goesThrough_X3_tryPledge rfl rfl rfl dV_X3_tryPledge ⟨Nat.le_of_ble_eq_true rfl, Nat.le_of_ble_eq_true rfl⟩) rfl rfl rfl rfl (Nat.le_of_ble_eq_true rfl) dX3_goesThrough_105 ⟨Nat.le_of_ble_eq_true rfl, Nat.le_of_ble_eq_true rfl⟩ [0, 1, 2, 3, 4, 5, 6, 7, 8] rfl rfl ?_
          have hk : ¬ doOK P np nq nd c x y z := by rw [k50_1, hy0]; exact do1n hv
          have ecell : c = (doF P np nq nd c x y z) := by rw [doF_no hk]
          refine g_ws (ws2 := [(hs, .inr (3, [.ref hp, .ref hc])), (hc, .inl (cI, 20, .inl (doF P np nq nd c x y z))), (hp, o2 r ti np nq nd), (r 1, .inl (cI, 5, .inl (fun k_ => nI (P 0 k_)))), (r 2, .inl (cI, 5, .inl (fun k_ => nI (P 1 k_)))), (r 3, .inl (cI, 5, .inl (fun k_ => nI (P 2 k_)))), (r 4, .inl (cI, 5, .inl (fun k_ => nI (P 3 k_)))), (r 5, .inl (cI, 5, .inl (fun k_ => nI (P 4 k_)))), (r 6, .inl (cI, 5, .inl (fun k_ => nI (P 5 k_))))]) (congrArg (fun zz : Nat → Int32 => ([(hs, .inr (3, [.ref hp, .ref hc])), (hc, .inl (cI, 20, .inl zz)), (hp, o2 r ti np nq nd), (r 1, .inl (cI, 5, .inl (fun k_ => nI (P 0 k_)))), (r 2, .inl (cI, 5, .inl (fun k_ => nI (P 1 k_)))), (r 3, .inl (cI, 5, .inl (fun k_ => nI (P 2 k_)))), (r 4, .inl (cI, 5, .inl (fun k_ => nI (P 3 k_)))), (r 5, .inl (cI, 5, .inl (fun k_ => nI (P 4 k_)))), (r 6, .inl (cI, 5, .inl (fun k_ => nI (P 5 k_))))] : va_W)) ecell) ?_
          subst hQ
          refine g_zret (v := nI 0) hC () hr (by decide +kernel) ?_ rfl dX3_goesThrough_108
          exact (bI_f hk).symm
        by_cases k50_2 : x = 2
        · refine g_top (y := nI 2) (by rw [k50_2]) ?_
          refine g_tableIn (off := 59) hC 109 dX3_goesThrough_50 (by decide +kernel) (by decide +kernel) (by decide +kernel) (by decide) ?_
          by_cases hv : z < nq
          · refine g_aload_n hC 0 dX3_goesThrough_109 rfl rfl ?_
            refine g_iload_n hC 3 dX3_goesThrough_110 rfl rfl ?_
            refine g_callVi (As := [.int (nI z)]) (rest := []) hC (c_X3_tryRedeem l D cI cZ hs hp hc c r ti np nq nd P z (by first | assumption | omega) (by first | assumption | omega)) (cwV 1 hC.1.2.2.2.2 gX3_goesThrough_X3_tryRedeem rfl rfl rfl dV_X3_tryRedeem ⟨Nat.le_of_ble_eq_true rfl, Nat.le_of_ble_eq_true rfl⟩) rfl rfl rfl rfl (Nat.le_of_ble_eq_true rfl) dX3_goesThrough_111 ⟨Nat.le_of_ble_eq_true rfl, Nat.le_of_ble_eq_true rfl⟩ [0, 1, 2, 3, 4, 5, 6, 7, 8] [] [0, 1, 2, 3, 4, 5, 6, 7, 8] (fun (_ : Unit) => [(hs, .inr (3, [.ref hp, .ref hc])), (hc, .inl (cI, 20, .inl (tryR P c z))), (hp, o2 r ti np nq nd), (r 1, .inl (cI, 5, .inl (fun k_ => nI (P 0 k_)))), (r 2, .inl (cI, 5, .inl (fun k_ => nI (P 1 k_)))), (r 3, .inl (cI, 5, .inl (fun k_ => nI (P 2 k_)))), (r 4, .inl (cI, 5, .inl (fun k_ => nI (P 3 k_)))), (r 5, .inl (cI, 5, .inl (fun k_ => nI (P 4 k_)))), (r 6, .inl (cI, 5, .inl (fun k_ => nI (P 5 k_))))]) rfl rfl rfl (fun _ => rfl) (fun r111 z111 hp111 => ?_)
            try dsimp only at hp111
            subst hp111
            refine g_is (ws2 := [(hs, .inr (3, [.ref hp, .ref hc])), (hc, .inl (cI, 20, .inl (tryR P c z))), (hp, o2 r ti np nq nd), (r 1, .inl (cI, 5, .inl (fun k_ => nI (P 0 k_)))), (r 2, .inl (cI, 5, .inl (fun k_ => nI (P 1 k_)))), (r 3, .inl (cI, 5, .inl (fun k_ => nI (P 2 k_)))), (r 4, .inl (cI, 5, .inl (fun k_ => nI (P 3 k_)))), (r 5, .inl (cI, 5, .inl (fun k_ => nI (P 4 k_)))), (r 6, .inl (cI, 5, .inl (fun k_ => nI (P 5 k_))))]) (lv2 := [(0, .ref hs), (1, .int (nI x)), (2, .int (nI y)), (3, .int (nI z))]) (st2 := [.int (bI (canR P c z))]) rfl rfl rfl ?_
            have hk : doOK P np nq nd c x y z ↔ canR P c z := by rw [k50_2, hy0]; exact do2 hv
            have ecell : (tryR P c z) = (doF P np nq nd c x y z) := by rw [k50_2, hy0]; exact (do2f hv).symm
            refine g_ws (ws2 := [(hs, .inr (3, [.ref hp, .ref hc])), (hc, .inl (cI, 20, .inl (doF P np nq nd c x y z))), (hp, o2 r ti np nq nd), (r 1, .inl (cI, 5, .inl (fun k_ => nI (P 0 k_)))), (r 2, .inl (cI, 5, .inl (fun k_ => nI (P 1 k_)))), (r 3, .inl (cI, 5, .inl (fun k_ => nI (P 2 k_)))), (r 4, .inl (cI, 5, .inl (fun k_ => nI (P 3 k_)))), (r 5, .inl (cI, 5, .inl (fun k_ => nI (P 4 k_)))), (r 6, .inl (cI, 5, .inl (fun k_ => nI (P 5 k_))))]) (congrArg (fun zz : Nat → Int32 => ([(hs, .inr (3, [.ref hp, .ref hc])), (hc, .inl (cI, 20, .inl zz)), (hp, o2 r ti np nq nd), (r 1, .inl (cI, 5, .inl (fun k_ => nI (P 0 k_)))), (r 2, .inl (cI, 5, .inl (fun k_ => nI (P 1 k_)))), (r 3, .inl (cI, 5, .inl (fun k_ => nI (P 2 k_)))), (r 4, .inl (cI, 5, .inl (fun k_ => nI (P 3 k_)))), (r 5, .inl (cI, 5, .inl (fun k_ => nI (P 4 k_)))), (r 6, .inl (cI, 5, .inl (fun k_ => nI (P 5 k_))))] : va_W)) ecell) ?_
            refine g_top (y := bI (doOK P np nq nd c x y z)) (bI_iff hk.symm) ?_
            subst hQ
            refine g_zret (v := bI (doOK P np nq nd c x y z)) hC () hr bI_nar ?_ rfl dX3_goesThrough_114
            rfl
          refine g_aload_n hC 0 dX3_goesThrough_109 rfl rfl ?_
          refine g_iload_n hC 3 dX3_goesThrough_110 rfl rfl ?_
          refine g_callVip (As := [.int (nI z)]) (rest := []) hC (nI 0) (c_X3_tryRedeem_no l D cI cZ hs hp hc c r ti np nq nd P (nI z) (by first | assumption | omega) (fun q => hv ((inR_kn (by omega) (by omega)).mp q))) (cwV 1 hC.1.2.2.2.2 gX3_goesThrough_X3_tryRedeem rfl rfl rfl dV_X3_tryRedeem ⟨Nat.le_of_ble_eq_true rfl, Nat.le_of_ble_eq_true rfl⟩) rfl rfl rfl rfl (Nat.le_of_ble_eq_true rfl) dX3_goesThrough_111 ⟨Nat.le_of_ble_eq_true rfl, Nat.le_of_ble_eq_true rfl⟩ [0, 1, 2, 3, 4, 5, 6, 7, 8] rfl rfl ?_
          have hk : ¬ doOK P np nq nd c x y z := by rw [k50_2, hy0]; exact do2n hv
          have ecell : c = (doF P np nq nd c x y z) := by rw [doF_no hk]
          refine g_ws (ws2 := [(hs, .inr (3, [.ref hp, .ref hc])), (hc, .inl (cI, 20, .inl (doF P np nq nd c x y z))), (hp, o2 r ti np nq nd), (r 1, .inl (cI, 5, .inl (fun k_ => nI (P 0 k_)))), (r 2, .inl (cI, 5, .inl (fun k_ => nI (P 1 k_)))), (r 3, .inl (cI, 5, .inl (fun k_ => nI (P 2 k_)))), (r 4, .inl (cI, 5, .inl (fun k_ => nI (P 3 k_)))), (r 5, .inl (cI, 5, .inl (fun k_ => nI (P 4 k_)))), (r 6, .inl (cI, 5, .inl (fun k_ => nI (P 5 k_))))]) (congrArg (fun zz : Nat → Int32 => ([(hs, .inr (3, [.ref hp, .ref hc])), (hc, .inl (cI, 20, .inl zz)), (hp, o2 r ti np nq nd), (r 1, .inl (cI, 5, .inl (fun k_ => nI (P 0 k_)))), (r 2, .inl (cI, 5, .inl (fun k_ => nI (P 1 k_)))), (r 3, .inl (cI, 5, .inl (fun k_ => nI (P 2 k_)))), (r 4, .inl (cI, 5, .inl (fun k_ => nI (P 3 k_)))), (r 5, .inl (cI, 5, .inl (fun k_ => nI (P 4 k_)))), (r 6, .inl (cI, 5, .inl (fun k_ => nI (P 5 k_))))] : va_W)) ecell) ?_
          subst hQ
          refine g_zret (v := nI 0) hC () hr (by decide +kernel) ?_ rfl dX3_goesThrough_114
          exact (bI_f hk).symm
        by_cases k50_3 : x = 3
        · refine g_top (y := nI 3) (by rw [k50_3]) ?_
          refine g_tableIn (off := 91) hC 141 dX3_goesThrough_50 (by decide +kernel) (by decide +kernel) (by decide +kernel) (by decide) ?_
          refine g_iconst (v := nI 0) hC dX3_goesThrough_141 rfl ?_
          have hk : ¬ doOK P np nq nd c x y z := by rw [hy0]; rw [k50_3]; exact absurd k50_3 h2t
          have ecell : c = (doF P np nq nd c x y z) := by rw [doF_no hk]
          refine g_ws (ws2 := [(hs, .inr (3, [.ref hp, .ref hc])), (hc, .inl (cI, 20, .inl (doF P np nq nd c x y z))), (hp, o2 r ti np nq nd), (r 1, .inl (cI, 5, .inl (fun k_ => nI (P 0 k_)))), (r 2, .inl (cI, 5, .inl (fun k_ => nI (P 1 k_)))), (r 3, .inl (cI, 5, .inl (fun k_ => nI (P 2 k_)))), (r 4, .inl (cI, 5, .inl (fun k_ => nI (P 3 k_)))), (r 5, .inl (cI, 5, .inl (fun k_ => nI (P 4 k_)))), (r 6, .inl (cI, 5, .inl (fun k_ => nI (P 5 k_))))]) (congrArg (fun zz : Nat → Int32 => ([(hs, .inr (3, [.ref hp, .ref hc])), (hc, .inl (cI, 20, .inl zz)), (hp, o2 r ti np nq nd), (r 1, .inl (cI, 5, .inl (fun k_ => nI (P 0 k_)))), (r 2, .inl (cI, 5, .inl (fun k_ => nI (P 1 k_)))), (r 3, .inl (cI, 5, .inl (fun k_ => nI (P 2 k_)))), (r 4, .inl (cI, 5, .inl (fun k_ => nI (P 3 k_)))), (r 5, .inl (cI, 5, .inl (fun k_ => nI (P 4 k_)))), (r 6, .inl (cI, 5, .inl (fun k_ => nI (P 5 k_))))] : va_W)) ecell) ?_
          subst hQ
          refine g_zret (v := nI 0) hC () hr (by decide +kernel) ?_ rfl dX3_goesThrough_142
          exact (bI_f hk).symm
        by_cases k50_4 : x = 4
        · refine g_top (y := nI 4) (by rw [k50_4]) ?_
          refine g_tableIn (off := 65) hC 115 dX3_goesThrough_50 (by decide +kernel) (by decide +kernel) (by decide +kernel) (by decide) ?_
          refine g_aload_n hC 0 dX3_goesThrough_115 rfl rfl ?_
          refine g_get (C := RX3) (T := TX3) (N := 2) (ci := 3) (v := .ref hp) hC hcw3 0 rfl rfl 0 (by decide) w1 (fun _ h => h) rfl dX3_goesThrough_116 ?_
          refine g_iload_n hC 3 dX3_goesThrough_119 rfl rfl ?_
          refine g_callVip (As := [.int (nI z)]) (rest := []) hC (bI (inR (nI z) nd)) (c_X2_hasDeed l D cI cZ hp r ti np nq nd (nI z) (by first | assumption | omega)) (cwV 1 hC.1.2.2.2.2 gX3_goesThrough_X2_hasDeed rfl rfl rfl dV_X2_hasDeed ⟨Nat.le_of_ble_eq_true rfl, Nat.le_of_ble_eq_true rfl⟩) rfl rfl rfl rfl (Nat.le_of_ble_eq_true rfl) dX3_goesThrough_120 ⟨Nat.le_of_ble_eq_true rfl, Nat.le_of_ble_eq_true rfl⟩ [2] rfl rfl ?_
          refine g_if_eq_b hC 139 dX3_goesThrough_123 (by decide) (fun h123t => ?_) (fun h123f => ?_)
          · have hv : ¬ z < nd := fun q => h123t (inR_k (by omega) q)
            refine g_iconst (v := nI 0) hC dX3_goesThrough_139 rfl ?_
            have hk : doOK P np nq nd c x y z ↔ (z < nd ∧ c (15 + z) = nI 1) := by rw [k50_4, hy0]; exact do4
            have ecell : c = (doF P np nq nd c x y z) := by rw [k50_4, hy0]; exact do4f.symm
            refine g_ws (ws2 := [(hs, .inr (3, [.ref hp, .ref hc])), (hc, .inl (cI, 20, .inl (doF P np nq nd c x y z))), (hp, o2 r ti np nq nd), (r 1, .inl (cI, 5, .inl (fun k_ => nI (P 0 k_)))), (r 2, .inl (cI, 5, .inl (fun k_ => nI (P 1 k_)))), (r 3, .inl (cI, 5, .inl (fun k_ => nI (P 2 k_)))), (r 4, .inl (cI, 5, .inl (fun k_ => nI (P 3 k_)))), (r 5, .inl (cI, 5, .inl (fun k_ => nI (P 4 k_)))), (r 6, .inl (cI, 5, .inl (fun k_ => nI (P 5 k_))))]) (congrArg (fun zz : Nat → Int32 => ([(hs, .inr (3, [.ref hp, .ref hc])), (hc, .inl (cI, 20, .inl zz)), (hp, o2 r ti np nq nd), (r 1, .inl (cI, 5, .inl (fun k_ => nI (P 0 k_)))), (r 2, .inl (cI, 5, .inl (fun k_ => nI (P 1 k_)))), (r 3, .inl (cI, 5, .inl (fun k_ => nI (P 2 k_)))), (r 4, .inl (cI, 5, .inl (fun k_ => nI (P 3 k_)))), (r 5, .inl (cI, 5, .inl (fun k_ => nI (P 4 k_)))), (r 6, .inl (cI, 5, .inl (fun k_ => nI (P 5 k_))))] : va_W)) ecell) ?_
            subst hQ
            refine g_zret (v := nI 0) hC () hr (by decide +kernel) ?_ rfl dX3_goesThrough_140
            exact (bI_f (fun w => hv (hk.mp w).1)).symm
          have hv := (inR_kn (by omega) (by omega)).mp h123f
          refine g_aload_n hC 0 dX3_goesThrough_126 rfl rfl ?_
          refine g_iload_n hC 3 dX3_goesThrough_127 rfl rfl ?_
          refine g_callVip (As := [.int (nI z)]) (rest := []) hC (c (15 + z)) (c_X3_outcomeOf l D cI cZ hs hp hc c z (by first | assumption | omega)) (cwV 1 hC.1.2.2.2.2 gX3_goesThrough_X3_outcomeOf rfl rfl rfl dV_X3_outcomeOf ⟨Nat.le_of_ble_eq_true rfl, Nat.le_of_ble_eq_true rfl⟩) rfl rfl rfl rfl (Nat.le_of_ble_eq_true rfl) dX3_goesThrough_128 ⟨Nat.le_of_ble_eq_true rfl, Nat.le_of_ble_eq_true rfl⟩ [0, 1] rfl rfl ?_
          refine g_iconst (v := nI 1) hC dX3_goesThrough_131 rfl ?_
          refine g_icmp_ne hC 139 dX3_goesThrough_132 (by decide) (fun h132t => ?_) (fun h132f => ?_)
          · refine g_iconst (v := nI 0) hC dX3_goesThrough_139 rfl ?_
            have hk : doOK P np nq nd c x y z ↔ (z < nd ∧ c (15 + z) = nI 1) := by rw [k50_4, hy0]; exact do4
            have ecell : c = (doF P np nq nd c x y z) := by rw [k50_4, hy0]; exact do4f.symm
            refine g_ws (ws2 := [(hs, .inr (3, [.ref hp, .ref hc])), (hc, .inl (cI, 20, .inl (doF P np nq nd c x y z))), (hp, o2 r ti np nq nd), (r 1, .inl (cI, 5, .inl (fun k_ => nI (P 0 k_)))), (r 2, .inl (cI, 5, .inl (fun k_ => nI (P 1 k_)))), (r 3, .inl (cI, 5, .inl (fun k_ => nI (P 2 k_)))), (r 4, .inl (cI, 5, .inl (fun k_ => nI (P 3 k_)))), (r 5, .inl (cI, 5, .inl (fun k_ => nI (P 4 k_)))), (r 6, .inl (cI, 5, .inl (fun k_ => nI (P 5 k_))))]) (congrArg (fun zz : Nat → Int32 => ([(hs, .inr (3, [.ref hp, .ref hc])), (hc, .inl (cI, 20, .inl zz)), (hp, o2 r ti np nq nd), (r 1, .inl (cI, 5, .inl (fun k_ => nI (P 0 k_)))), (r 2, .inl (cI, 5, .inl (fun k_ => nI (P 1 k_)))), (r 3, .inl (cI, 5, .inl (fun k_ => nI (P 2 k_)))), (r 4, .inl (cI, 5, .inl (fun k_ => nI (P 3 k_)))), (r 5, .inl (cI, 5, .inl (fun k_ => nI (P 4 k_)))), (r 6, .inl (cI, 5, .inl (fun k_ => nI (P 5 k_))))] : va_W)) ecell) ?_
            subst hQ
            refine g_zret (v := nI 0) hC () hr (by decide +kernel) ?_ rfl dX3_goesThrough_140
            exact (bI_f (fun w => h132t (hk.mp w).2)).symm
          refine g_iconst (v := nI 1) hC dX3_goesThrough_135 rfl ?_
          refine g_goto hC 140 dX3_goesThrough_136 (by decide) ?_
          have hk : doOK P np nq nd c x y z ↔ (z < nd ∧ c (15 + z) = nI 1) := by rw [k50_4, hy0]; exact do4
          have ecell : c = (doF P np nq nd c x y z) := by rw [k50_4, hy0]; exact do4f.symm
          refine g_ws (ws2 := [(hs, .inr (3, [.ref hp, .ref hc])), (hc, .inl (cI, 20, .inl (doF P np nq nd c x y z))), (hp, o2 r ti np nq nd), (r 1, .inl (cI, 5, .inl (fun k_ => nI (P 0 k_)))), (r 2, .inl (cI, 5, .inl (fun k_ => nI (P 1 k_)))), (r 3, .inl (cI, 5, .inl (fun k_ => nI (P 2 k_)))), (r 4, .inl (cI, 5, .inl (fun k_ => nI (P 3 k_)))), (r 5, .inl (cI, 5, .inl (fun k_ => nI (P 4 k_)))), (r 6, .inl (cI, 5, .inl (fun k_ => nI (P 5 k_))))]) (congrArg (fun zz : Nat → Int32 => ([(hs, .inr (3, [.ref hp, .ref hc])), (hc, .inl (cI, 20, .inl zz)), (hp, o2 r ti np nq nd), (r 1, .inl (cI, 5, .inl (fun k_ => nI (P 0 k_)))), (r 2, .inl (cI, 5, .inl (fun k_ => nI (P 1 k_)))), (r 3, .inl (cI, 5, .inl (fun k_ => nI (P 2 k_)))), (r 4, .inl (cI, 5, .inl (fun k_ => nI (P 3 k_)))), (r 5, .inl (cI, 5, .inl (fun k_ => nI (P 4 k_)))), (r 6, .inl (cI, 5, .inl (fun k_ => nI (P 5 k_))))] : va_W)) ecell) ?_
          subst hQ
          refine g_zret (v := nI 1) hC () hr (by decide +kernel) ?_ rfl dX3_goesThrough_140
          exact (bI_t (hk.mpr ⟨hv, h132f⟩)).symm
        refine g_tableOut hC 141 dX3_goesThrough_50 (by rw [nI_toInt (by omega)]; omega) (by decide) ?_
        refine g_iconst (v := nI 0) hC dX3_goesThrough_141 rfl ?_
        have hk : ¬ doOK P np nq nd c x y z := by rw [hy0]; exact doX h2t h14t k50_0 k50_1 k50_2 k50_4
        have ecell : c = (doF P np nq nd c x y z) := by rw [doF_no hk]
        refine g_ws (ws2 := [(hs, .inr (3, [.ref hp, .ref hc])), (hc, .inl (cI, 20, .inl (doF P np nq nd c x y z))), (hp, o2 r ti np nq nd), (r 1, .inl (cI, 5, .inl (fun k_ => nI (P 0 k_)))), (r 2, .inl (cI, 5, .inl (fun k_ => nI (P 1 k_)))), (r 3, .inl (cI, 5, .inl (fun k_ => nI (P 2 k_)))), (r 4, .inl (cI, 5, .inl (fun k_ => nI (P 3 k_)))), (r 5, .inl (cI, 5, .inl (fun k_ => nI (P 4 k_)))), (r 6, .inl (cI, 5, .inl (fun k_ => nI (P 5 k_))))]) (congrArg (fun zz : Nat → Int32 => ([(hs, .inr (3, [.ref hp, .ref hc])), (hc, .inl (cI, 20, .inl zz)), (hp, o2 r ti np nq nd), (r 1, .inl (cI, 5, .inl (fun k_ => nI (P 0 k_)))), (r 2, .inl (cI, 5, .inl (fun k_ => nI (P 1 k_)))), (r 3, .inl (cI, 5, .inl (fun k_ => nI (P 2 k_)))), (r 4, .inl (cI, 5, .inl (fun k_ => nI (P 3 k_)))), (r 5, .inl (cI, 5, .inl (fun k_ => nI (P 4 k_)))), (r 6, .inl (cI, 5, .inl (fun k_ => nI (P 5 k_))))] : va_W)) ecell) ?_
        subst hQ
        refine g_zret (v := nI 0) hC () hr (by decide +kernel) ?_ rfl dX3_goesThrough_142
        exact (bI_f hk).symm
      refine g_iconst (v := nI 0) hC dX3_goesThrough_47 rfl ?_
      have hk : ¬ doOK P np nq nd c x y z := doM h2t h14t h44f
      have ecell : c = (doF P np nq nd c x y z) := by rw [doF_no hk]
      refine g_ws (ws2 := [(hs, .inr (3, [.ref hp, .ref hc])), (hc, .inl (cI, 20, .inl (doF P np nq nd c x y z))), (hp, o2 r ti np nq nd), (r 1, .inl (cI, 5, .inl (fun k_ => nI (P 0 k_)))), (r 2, .inl (cI, 5, .inl (fun k_ => nI (P 1 k_)))), (r 3, .inl (cI, 5, .inl (fun k_ => nI (P 2 k_)))), (r 4, .inl (cI, 5, .inl (fun k_ => nI (P 3 k_)))), (r 5, .inl (cI, 5, .inl (fun k_ => nI (P 4 k_)))), (r 6, .inl (cI, 5, .inl (fun k_ => nI (P 5 k_))))]) (congrArg (fun zz : Nat → Int32 => ([(hs, .inr (3, [.ref hp, .ref hc])), (hc, .inl (cI, 20, .inl zz)), (hp, o2 r ti np nq nd), (r 1, .inl (cI, 5, .inl (fun k_ => nI (P 0 k_)))), (r 2, .inl (cI, 5, .inl (fun k_ => nI (P 1 k_)))), (r 3, .inl (cI, 5, .inl (fun k_ => nI (P 2 k_)))), (r 4, .inl (cI, 5, .inl (fun k_ => nI (P 3 k_)))), (r 5, .inl (cI, 5, .inl (fun k_ => nI (P 4 k_)))), (r 6, .inl (cI, 5, .inl (fun k_ => nI (P 5 k_))))] : va_W)) ecell) ?_
      subst hQ
      refine g_zret (v := nI 0) hC () hr (by decide +kernel) ?_ rfl dX3_goesThrough_48
      exact (bI_f hk).symm
    refine g_aload_n hC 0 dX3_goesThrough_17 rfl rfl ?_
    refine g_get (C := RX3) (T := TX3) (N := 2) (ci := 3) (v := .ref hp) hC hcw3 0 rfl rfl 0 (by decide) w1 (fun _ h => h) rfl dX3_goesThrough_18 ?_
    refine g_iload_n hC 2 dX3_goesThrough_21 rfl rfl ?_
    refine g_callVip (As := [.int (nI y)]) (rest := []) hC (bI (inR (nI y) np)) (c_X2_hasPerson l D cI cZ hp r ti np nq nd (nI y) (by first | assumption | omega)) (cwV 1 hC.1.2.2.2.2 gX3_goesThrough_X2_hasPerson rfl rfl rfl dV_X2_hasPerson ⟨Nat.le_of_ble_eq_true rfl, Nat.le_of_ble_eq_true rfl⟩) rfl rfl rfl rfl (Nat.le_of_ble_eq_true rfl) dX3_goesThrough_22 ⟨Nat.le_of_ble_eq_true rfl, Nat.le_of_ble_eq_true rfl⟩ [2] rfl rfl ?_
    refine g_if_eq_b hC 41 dX3_goesThrough_25 (by decide) (fun h25t => ?_) (fun h25f => ?_)
    · have hv : ¬ y < np := fun q => h25t (inR_k (by omega) q)
      refine g_iconst (v := nI 0) hC dX3_goesThrough_41 rfl ?_
      have hk : doOK P np nq nd c x y z ↔ (y < np ∧ nI z ≤ c (2 + y)) := by rw [h14f]; exact do5
      have ecell : c = (doF P np nq nd c x y z) := by rw [h14f]; exact do5f.symm
      refine g_ws (ws2 := [(hs, .inr (3, [.ref hp, .ref hc])), (hc, .inl (cI, 20, .inl (doF P np nq nd c x y z))), (hp, o2 r ti np nq nd), (r 1, .inl (cI, 5, .inl (fun k_ => nI (P 0 k_)))), (r 2, .inl (cI, 5, .inl (fun k_ => nI (P 1 k_)))), (r 3, .inl (cI, 5, .inl (fun k_ => nI (P 2 k_)))), (r 4, .inl (cI, 5, .inl (fun k_ => nI (P 3 k_)))), (r 5, .inl (cI, 5, .inl (fun k_ => nI (P 4 k_)))), (r 6, .inl (cI, 5, .inl (fun k_ => nI (P 5 k_))))]) (congrArg (fun zz : Nat → Int32 => ([(hs, .inr (3, [.ref hp, .ref hc])), (hc, .inl (cI, 20, .inl zz)), (hp, o2 r ti np nq nd), (r 1, .inl (cI, 5, .inl (fun k_ => nI (P 0 k_)))), (r 2, .inl (cI, 5, .inl (fun k_ => nI (P 1 k_)))), (r 3, .inl (cI, 5, .inl (fun k_ => nI (P 2 k_)))), (r 4, .inl (cI, 5, .inl (fun k_ => nI (P 3 k_)))), (r 5, .inl (cI, 5, .inl (fun k_ => nI (P 4 k_)))), (r 6, .inl (cI, 5, .inl (fun k_ => nI (P 5 k_))))] : va_W)) ecell) ?_
      subst hQ
      refine g_zret (v := nI 0) hC () hr (by decide +kernel) ?_ rfl dX3_goesThrough_42
      exact (bI_f (fun w => hv (hk.mp w).1)).symm
    have hv := (inR_kn (by omega) (by omega)).mp h25f
    refine g_aload_n hC 0 dX3_goesThrough_28 rfl rfl ?_
    refine g_iload_n hC 2 dX3_goesThrough_29 rfl rfl ?_
    refine g_callVip (As := [.int (nI y)]) (rest := []) hC (c (2 + y)) (c_X3_purseOf l D cI cZ hs hp hc c y (by first | assumption | omega)) (cwV 1 hC.1.2.2.2.2 gX3_goesThrough_X3_purseOf rfl rfl rfl dV_X3_purseOf ⟨Nat.le_of_ble_eq_true rfl, Nat.le_of_ble_eq_true rfl⟩) rfl rfl rfl rfl (Nat.le_of_ble_eq_true rfl) dX3_goesThrough_30 ⟨Nat.le_of_ble_eq_true rfl, Nat.le_of_ble_eq_true rfl⟩ [0, 1] rfl rfl ?_
    refine g_iload_n hC 3 dX3_goesThrough_33 rfl rfl ?_
    refine g_icmp_lt hC 41 dX3_goesThrough_34 (by decide) (fun h34t => ?_) (fun h34f => ?_)
    · refine g_iconst (v := nI 0) hC dX3_goesThrough_41 rfl ?_
      have hk : doOK P np nq nd c x y z ↔ (y < np ∧ nI z ≤ c (2 + y)) := by rw [h14f]; exact do5
      have ecell : c = (doF P np nq nd c x y z) := by rw [h14f]; exact do5f.symm
      refine g_ws (ws2 := [(hs, .inr (3, [.ref hp, .ref hc])), (hc, .inl (cI, 20, .inl (doF P np nq nd c x y z))), (hp, o2 r ti np nq nd), (r 1, .inl (cI, 5, .inl (fun k_ => nI (P 0 k_)))), (r 2, .inl (cI, 5, .inl (fun k_ => nI (P 1 k_)))), (r 3, .inl (cI, 5, .inl (fun k_ => nI (P 2 k_)))), (r 4, .inl (cI, 5, .inl (fun k_ => nI (P 3 k_)))), (r 5, .inl (cI, 5, .inl (fun k_ => nI (P 4 k_)))), (r 6, .inl (cI, 5, .inl (fun k_ => nI (P 5 k_))))]) (congrArg (fun zz : Nat → Int32 => ([(hs, .inr (3, [.ref hp, .ref hc])), (hc, .inl (cI, 20, .inl zz)), (hp, o2 r ti np nq nd), (r 1, .inl (cI, 5, .inl (fun k_ => nI (P 0 k_)))), (r 2, .inl (cI, 5, .inl (fun k_ => nI (P 1 k_)))), (r 3, .inl (cI, 5, .inl (fun k_ => nI (P 2 k_)))), (r 4, .inl (cI, 5, .inl (fun k_ => nI (P 3 k_)))), (r 5, .inl (cI, 5, .inl (fun k_ => nI (P 4 k_)))), (r 6, .inl (cI, 5, .inl (fun k_ => nI (P 5 k_))))] : va_W)) ecell) ?_
      subst hQ
      refine g_zret (v := nI 0) hC () hr (by decide +kernel) ?_ rfl dX3_goesThrough_42
      exact (bI_f (fun w => absurd (hk.mp w).2 (Int32.not_le.mpr h34t))).symm
    refine g_iconst (v := nI 1) hC dX3_goesThrough_37 rfl ?_
    refine g_goto hC 42 dX3_goesThrough_38 (by decide) ?_
    have hk : doOK P np nq nd c x y z ↔ (y < np ∧ nI z ≤ c (2 + y)) := by rw [h14f]; exact do5
    have ecell : c = (doF P np nq nd c x y z) := by rw [h14f]; exact do5f.symm
    refine g_ws (ws2 := [(hs, .inr (3, [.ref hp, .ref hc])), (hc, .inl (cI, 20, .inl (doF P np nq nd c x y z))), (hp, o2 r ti np nq nd), (r 1, .inl (cI, 5, .inl (fun k_ => nI (P 0 k_)))), (r 2, .inl (cI, 5, .inl (fun k_ => nI (P 1 k_)))), (r 3, .inl (cI, 5, .inl (fun k_ => nI (P 2 k_)))), (r 4, .inl (cI, 5, .inl (fun k_ => nI (P 3 k_)))), (r 5, .inl (cI, 5, .inl (fun k_ => nI (P 4 k_)))), (r 6, .inl (cI, 5, .inl (fun k_ => nI (P 5 k_))))]) (congrArg (fun zz : Nat → Int32 => ([(hs, .inr (3, [.ref hp, .ref hc])), (hc, .inl (cI, 20, .inl zz)), (hp, o2 r ti np nq nd), (r 1, .inl (cI, 5, .inl (fun k_ => nI (P 0 k_)))), (r 2, .inl (cI, 5, .inl (fun k_ => nI (P 1 k_)))), (r 3, .inl (cI, 5, .inl (fun k_ => nI (P 2 k_)))), (r 4, .inl (cI, 5, .inl (fun k_ => nI (P 3 k_)))), (r 5, .inl (cI, 5, .inl (fun k_ => nI (P 4 k_)))), (r 6, .inl (cI, 5, .inl (fun k_ => nI (P 5 k_))))] : va_W)) ecell) ?_
    subst hQ
    refine g_zret (v := nI 1) hC () hr (by decide +kernel) ?_ rfl dX3_goesThrough_42
    exact (bI_t (hk.mpr ⟨hv, Int32.not_lt.mp h34f⟩)).symm
  by_cases hv : y < np
  · refine g_aload_n hC 0 dX3_goesThrough_5 rfl rfl ?_
    refine g_iload_n hC 2 dX3_goesThrough_6 rfl rfl ?_
    refine g_iload_n hC 3 dX3_goesThrough_7 rfl rfl ?_
    refine g_callVi (As := [.int (nI y), .int (nI z)]) (rest := []) hC (c_X3_tryGive l D cI cZ hs hp hc c r ti np nq nd y (nI z) (by first | assumption | omega) (by first | assumption | omega)) (cwV 2 hC.1.2.2.2.2 gX3_goesThrough_X3_tryGive rfl rfl rfl dV_X3_tryGive ⟨Nat.le_of_ble_eq_true rfl, Nat.le_of_ble_eq_true rfl⟩) rfl rfl rfl rfl (Nat.le_of_ble_eq_true rfl) dX3_goesThrough_8 ⟨Nat.le_of_ble_eq_true rfl, Nat.le_of_ble_eq_true rfl⟩ [0, 1, 2] [3, 4, 5, 6, 7, 8] [6, 7, 8, 0, 1, 2, 3, 4, 5] (fun (_ : Unit) => [(hs, .inr (3, [.ref hp, .ref hc])), (hc, .inl (cI, 20, .inl (tryG c y (nI z)))), (hp, o2 r ti np nq nd), (r 1, .inl (cI, 5, .inl (fun k_ => nI (P 0 k_)))), (r 2, .inl (cI, 5, .inl (fun k_ => nI (P 1 k_)))), (r 3, .inl (cI, 5, .inl (fun k_ => nI (P 2 k_)))), (r 4, .inl (cI, 5, .inl (fun k_ => nI (P 3 k_)))), (r 5, .inl (cI, 5, .inl (fun k_ => nI (P 4 k_)))), (r 6, .inl (cI, 5, .inl (fun k_ => nI (P 5 k_))))]) rfl rfl rfl (fun _ => rfl) (fun r8 z8 hp8 => ?_)
    try dsimp only at hp8
    subst hp8
    refine g_is (ws2 := [(hs, .inr (3, [.ref hp, .ref hc])), (hc, .inl (cI, 20, .inl (tryG c y (nI z)))), (hp, o2 r ti np nq nd), (r 1, .inl (cI, 5, .inl (fun k_ => nI (P 0 k_)))), (r 2, .inl (cI, 5, .inl (fun k_ => nI (P 1 k_)))), (r 3, .inl (cI, 5, .inl (fun k_ => nI (P 2 k_)))), (r 4, .inl (cI, 5, .inl (fun k_ => nI (P 3 k_)))), (r 5, .inl (cI, 5, .inl (fun k_ => nI (P 4 k_)))), (r 6, .inl (cI, 5, .inl (fun k_ => nI (P 5 k_))))]) (lv2 := [(0, .ref hs), (1, .int (nI x)), (2, .int (nI y)), (3, .int (nI z))]) (st2 := [.int (bI (okG (nI z)))]) rfl rfl rfl ?_
    have hk : doOK P np nq nd c x y z ↔ okG (nI z) := by rw [h2f]; exact do3 hz hv
    have ecell : (tryG c y (nI z)) = (doF P np nq nd c x y z) := by
      rw [doF, tryG]
      by_cases q : okG (nI z)
      · rw [if_pos q, if_pos (hk.mpr q), if_pos h2f]
      · rw [if_neg q, if_neg (fun w => q (hk.mp w))]
    refine g_ws (ws2 := [(hs, .inr (3, [.ref hp, .ref hc])), (hc, .inl (cI, 20, .inl (doF P np nq nd c x y z))), (hp, o2 r ti np nq nd), (r 1, .inl (cI, 5, .inl (fun k_ => nI (P 0 k_)))), (r 2, .inl (cI, 5, .inl (fun k_ => nI (P 1 k_)))), (r 3, .inl (cI, 5, .inl (fun k_ => nI (P 2 k_)))), (r 4, .inl (cI, 5, .inl (fun k_ => nI (P 3 k_)))), (r 5, .inl (cI, 5, .inl (fun k_ => nI (P 4 k_)))), (r 6, .inl (cI, 5, .inl (fun k_ => nI (P 5 k_))))]) (congrArg (fun zz : Nat → Int32 => ([(hs, .inr (3, [.ref hp, .ref hc])), (hc, .inl (cI, 20, .inl zz)), (hp, o2 r ti np nq nd), (r 1, .inl (cI, 5, .inl (fun k_ => nI (P 0 k_)))), (r 2, .inl (cI, 5, .inl (fun k_ => nI (P 1 k_)))), (r 3, .inl (cI, 5, .inl (fun k_ => nI (P 2 k_)))), (r 4, .inl (cI, 5, .inl (fun k_ => nI (P 3 k_)))), (r 5, .inl (cI, 5, .inl (fun k_ => nI (P 4 k_)))), (r 6, .inl (cI, 5, .inl (fun k_ => nI (P 5 k_))))] : va_W)) ecell) ?_
    refine g_top (y := bI (doOK P np nq nd c x y z)) (bI_iff hk.symm) ?_
    subst hQ
    refine g_zret (v := bI (doOK P np nq nd c x y z)) hC () hr bI_nar ?_ rfl dX3_goesThrough_11
    rfl
  refine g_aload_n hC 0 dX3_goesThrough_5 rfl rfl ?_
  refine g_iload_n hC 2 dX3_goesThrough_6 rfl rfl ?_
  refine g_iload_n hC 3 dX3_goesThrough_7 rfl rfl ?_
  refine g_callVip (As := [.int (nI y), .int (nI z)]) (rest := []) hC (nI 0) (c_X3_tryGive_no l D cI cZ hs hp hc c r ti np nq nd (nI y) (nI z) (fun q => hv ((inR_kn (by omega) (by omega)).mp q)) (by first | assumption | omega)) (cwV 2 hC.1.2.2.2.2 gX3_goesThrough_X3_tryGive rfl rfl rfl dV_X3_tryGive ⟨Nat.le_of_ble_eq_true rfl, Nat.le_of_ble_eq_true rfl⟩) rfl rfl rfl rfl (Nat.le_of_ble_eq_true rfl) dX3_goesThrough_8 ⟨Nat.le_of_ble_eq_true rfl, Nat.le_of_ble_eq_true rfl⟩ [0, 1, 2] rfl rfl ?_
  have hk : ¬ doOK P np nq nd c x y z := by rw [h2f]; exact do3n hv
  have ecell : c = (doF P np nq nd c x y z) := by rw [doF_no hk]
  refine g_ws (ws2 := [(hs, .inr (3, [.ref hp, .ref hc])), (hc, .inl (cI, 20, .inl (doF P np nq nd c x y z))), (hp, o2 r ti np nq nd), (r 1, .inl (cI, 5, .inl (fun k_ => nI (P 0 k_)))), (r 2, .inl (cI, 5, .inl (fun k_ => nI (P 1 k_)))), (r 3, .inl (cI, 5, .inl (fun k_ => nI (P 2 k_)))), (r 4, .inl (cI, 5, .inl (fun k_ => nI (P 3 k_)))), (r 5, .inl (cI, 5, .inl (fun k_ => nI (P 4 k_)))), (r 6, .inl (cI, 5, .inl (fun k_ => nI (P 5 k_))))]) (congrArg (fun zz : Nat → Int32 => ([(hs, .inr (3, [.ref hp, .ref hc])), (hc, .inl (cI, 20, .inl zz)), (hp, o2 r ti np nq nd), (r 1, .inl (cI, 5, .inl (fun k_ => nI (P 0 k_)))), (r 2, .inl (cI, 5, .inl (fun k_ => nI (P 1 k_)))), (r 3, .inl (cI, 5, .inl (fun k_ => nI (P 2 k_)))), (r 4, .inl (cI, 5, .inl (fun k_ => nI (P 3 k_)))), (r 5, .inl (cI, 5, .inl (fun k_ => nI (P 4 k_)))), (r 6, .inl (cI, 5, .inl (fun k_ => nI (P 5 k_))))] : va_W)) ecell) ?_
  subst hQ
  refine g_zret (v := nI 0) hC () hr (by decide +kernel) ?_ rfl dX3_goesThrough_11
  exact (bI_f hk).symm

abbrev rm_X3_chances : Room := { frames := 5, cells := 0, slots := 0, locals := 106 }
set_option maxRecDepth 100000 in
set_option maxHeartbeats 4000000 in
theorem c_X3_chances (l : Launch) (D : va_G) (cI cZ : ClassId) (hs : Nat) (hp : Nat) (hc : Nat) (c : Nat → Int32) (r : Nat → Nat) (ti : Int32) (np : Nat) (nq : Nat) (nd : Nat) (P : Nat → Nat → Nat) (t : Nat) (hW : WFP np nq nd P) (ht : t < 24) : CtV l yX3_chances wsX3_chances rm_X3_chances D cI cZ [.ref hs, .int (nI t)] [(hs, .inr (3, [.ref hp, .ref hc])), (hc, .inl (cI, 20, .inl c)), (hp, o2 r ti np nq nd), (r 1, .inl (cI, 5, .inl (fun k_ => nI (P 0 k_)))), (r 2, .inl (cI, 5, .inl (fun k_ => nI (P 1 k_)))), (r 3, .inl (cI, 5, .inl (fun k_ => nI (P 2 k_)))), (r 4, .inl (cI, 5, .inl (fun k_ => nI (P 3 k_)))), (r 5, .inl (cI, 5, .inl (fun k_ => nI (P 4 k_)))), (r 6, .inl (cI, 5, .inl (fun k_ => nI (P 5 k_))))] (fun (_ : Unit) => True) (fun (_ : Unit) => [(hs, .inr (3, [.ref hp, .ref hc])), (hc, .inl (cI, 20, .inl (chanceF P np nq nd c t))), (hp, o2 r ti np nq nd), (r 1, .inl (cI, 5, .inl (fun k_ => nI (P 0 k_)))), (r 2, .inl (cI, 5, .inl (fun k_ => nI (P 1 k_)))), (r 3, .inl (cI, 5, .inl (fun k_ => nI (P 2 k_)))), (r 4, .inl (cI, 5, .inl (fun k_ => nI (P 3 k_)))), (r 5, .inl (cI, 5, .inl (fun k_ => nI (P 4 k_)))), (r 6, .inl (cI, 5, .inl (fun k_ => nI (P 5 k_))))]) 0 0 := by
  refine g_startV (ret := none) (own := RX3) (lv0 := [(0, .ref hs), (1, .int (nI t))]) (by decide) rfl rfl (Nat.le_of_ble_eq_true rfl) rfl ?_
  intro p e s m args below meth cd A Q hin hr hQ hC
  obtain ⟨⟨hnp, hnq, hnd⟩, hq4, hd5⟩ := id hW
  refine g_iload_n hC 1 dX3_chances_0 rfl rfl ?_
  refine g_iconst (v := nI 5) hC dX3_chances_1 rfl ?_
  refine g_icmp_ge_n (a := t) (b := 5) hC (by omega) (by omega) 14 dX3_chances_2 (by decide) (fun h2t => ?_) (fun h2f => ?_)
  · refine g_iload_n hC 1 dX3_chances_14 rfl rfl ?_
    refine g_bipush (v := nI 10) hC dX3_chances_15 (by decide +kernel) ?_
    refine g_icmp_ge_n (a := t) (b := 10) hC (by omega) (by omega) 31 dX3_chances_17 (by decide) (fun h17t => ?_) (fun h17f => ?_)
    · refine g_iload_n hC 1 dX3_chances_31 rfl rfl ?_
      refine g_bipush (v := nI 13) hC dX3_chances_32 (by decide +kernel) ?_
      refine g_icmp_ge_n (a := t) (b := 13) hC (by omega) (by omega) 50 dX3_chances_34 (by decide) (fun h34t => ?_) (fun h34f => ?_)
      · refine g_aload_n hC 0 dX3_chances_50 rfl rfl ?_
        refine g_callVi (As := []) (rest := []) hC (c_X3_passDay l D cI cZ hs hp hc c r ti np nq nd P (by first | assumption | omega)) (cwV 0 hC.1.2.2.2.2 gX3_chances_X3_passDay rfl rfl rfl dV_X3_passDay ⟨Nat.le_of_ble_eq_true rfl, Nat.le_of_ble_eq_true rfl⟩) rfl rfl rfl rfl (Nat.le_of_ble_eq_true rfl) dX3_chances_51 ⟨Nat.le_of_ble_eq_true rfl, Nat.le_of_ble_eq_true rfl⟩ [0, 1, 2, 3, 4, 5, 6, 7, 8] [] [0, 1, 2, 3, 4, 5, 6, 7, 8] (fun (_ : Unit) => [(hs, .inr (3, [.ref hp, .ref hc])), (hc, .inl (cI, 20, .inl (passF P nq nd c))), (hp, o2 r ti np nq nd), (r 1, .inl (cI, 5, .inl (fun k_ => nI (P 0 k_)))), (r 2, .inl (cI, 5, .inl (fun k_ => nI (P 1 k_)))), (r 3, .inl (cI, 5, .inl (fun k_ => nI (P 2 k_)))), (r 4, .inl (cI, 5, .inl (fun k_ => nI (P 3 k_)))), (r 5, .inl (cI, 5, .inl (fun k_ => nI (P 4 k_)))), (r 6, .inl (cI, 5, .inl (fun k_ => nI (P 5 k_))))]) rfl rfl rfl (fun _ => rfl) (fun r51 z51 hp51 => ?_)
        try dsimp only at hp51
        subst hp51
        refine g_is (ws2 := [(hs, .inr (3, [.ref hp, .ref hc])), (hc, .inl (cI, 20, .inl (passF P nq nd c))), (hp, o2 r ti np nq nd), (r 1, .inl (cI, 5, .inl (fun k_ => nI (P 0 k_)))), (r 2, .inl (cI, 5, .inl (fun k_ => nI (P 1 k_)))), (r 3, .inl (cI, 5, .inl (fun k_ => nI (P 2 k_)))), (r 4, .inl (cI, 5, .inl (fun k_ => nI (P 3 k_)))), (r 5, .inl (cI, 5, .inl (fun k_ => nI (P 4 k_)))), (r 6, .inl (cI, 5, .inl (fun k_ => nI (P 5 k_))))]) (lv2 := [(0, .ref hs), (1, .int (nI t))]) (st2 := [.int (nI (cntD P c nd))]) rfl rfl rfl ?_
        refine g_pop hC dX3_chances_54 rfl ?_
        have ecell : (passF P nq nd c) = (chanceF P np nq nd c t) := by rw [chanceF, if_neg (by omega), if_neg (by omega), if_neg (by omega)]
        refine g_ws (ws2 := [(hs, .inr (3, [.ref hp, .ref hc])), (hc, .inl (cI, 20, .inl (chanceF P np nq nd c t))), (hp, o2 r ti np nq nd), (r 1, .inl (cI, 5, .inl (fun k_ => nI (P 0 k_)))), (r 2, .inl (cI, 5, .inl (fun k_ => nI (P 1 k_)))), (r 3, .inl (cI, 5, .inl (fun k_ => nI (P 2 k_)))), (r 4, .inl (cI, 5, .inl (fun k_ => nI (P 3 k_)))), (r 5, .inl (cI, 5, .inl (fun k_ => nI (P 4 k_)))), (r 6, .inl (cI, 5, .inl (fun k_ => nI (P 5 k_))))]) (congrArg (fun zz : Nat → Int32 => ([(hs, .inr (3, [.ref hp, .ref hc])), (hc, .inl (cI, 20, .inl zz)), (hp, o2 r ti np nq nd), (r 1, .inl (cI, 5, .inl (fun k_ => nI (P 0 k_)))), (r 2, .inl (cI, 5, .inl (fun k_ => nI (P 1 k_)))), (r 3, .inl (cI, 5, .inl (fun k_ => nI (P 2 k_)))), (r 4, .inl (cI, 5, .inl (fun k_ => nI (P 3 k_)))), (r 5, .inl (cI, 5, .inl (fun k_ => nI (P 4 k_)))), (r 6, .inl (cI, 5, .inl (fun k_ => nI (P 5 k_))))] : va_W)) ecell) ?_
        subst hQ
        refine g_vret hC () hr ?_ rfl dX3_chances_55
        trivial
      by_cases hv : t - 10 < np
      · refine g_aload_n hC 0 dX3_chances_37 rfl rfl ?_
        refine g_iload_n hC 1 dX3_chances_38 rfl rfl ?_
        refine g_bipush (v := nI 10) hC dX3_chances_39 (by decide +kernel) ?_
        refine g_isub_n (a := t) (b := 10) hC (by omega) dX3_chances_41 ?_
        refine g_iconst (v := nI 2) hC dX3_chances_42 rfl ?_
        refine g_callVi (As := [.int (nI (t - 10)), .int (nI 2)]) (rest := []) hC (c_X3_tryGive l D cI cZ hs hp hc c r ti np nq nd (t - 10) (nI 2) (by first | assumption | omega) (by first | assumption | omega)) (cwV 2 hC.1.2.2.2.2 gX3_chances_X3_tryGive rfl rfl rfl dV_X3_tryGive ⟨Nat.le_of_ble_eq_true rfl, Nat.le_of_ble_eq_true rfl⟩) rfl rfl rfl rfl (Nat.le_of_ble_eq_true rfl) dX3_chances_43 ⟨Nat.le_of_ble_eq_true rfl, Nat.le_of_ble_eq_true rfl⟩ [0, 1, 2] [3, 4, 5, 6, 7, 8] [6, 7, 8, 0, 1, 2, 3, 4, 5] (fun (_ : Unit) => [(hs, .inr (3, [.ref hp, .ref hc])), (hc, .inl (cI, 20, .inl (tryG c (t - 10) (nI 2)))), (hp, o2 r ti np nq nd), (r 1, .inl (cI, 5, .inl (fun k_ => nI (P 0 k_)))), (r 2, .inl (cI, 5, .inl (fun k_ => nI (P 1 k_)))), (r 3, .inl (cI, 5, .inl (fun k_ => nI (P 2 k_)))), (r 4, .inl (cI, 5, .inl (fun k_ => nI (P 3 k_)))), (r 5, .inl (cI, 5, .inl (fun k_ => nI (P 4 k_)))), (r 6, .inl (cI, 5, .inl (fun k_ => nI (P 5 k_))))]) rfl rfl rfl (fun _ => rfl) (fun r43 z43 hp43 => ?_)
        try dsimp only at hp43
        subst hp43
        refine g_is (ws2 := [(hs, .inr (3, [.ref hp, .ref hc])), (hc, .inl (cI, 20, .inl (tryG c (t - 10) (nI 2)))), (hp, o2 r ti np nq nd), (r 1, .inl (cI, 5, .inl (fun k_ => nI (P 0 k_)))), (r 2, .inl (cI, 5, .inl (fun k_ => nI (P 1 k_)))), (r 3, .inl (cI, 5, .inl (fun k_ => nI (P 2 k_)))), (r 4, .inl (cI, 5, .inl (fun k_ => nI (P 3 k_)))), (r 5, .inl (cI, 5, .inl (fun k_ => nI (P 4 k_)))), (r 6, .inl (cI, 5, .inl (fun k_ => nI (P 5 k_))))]) (lv2 := [(0, .ref hs), (1, .int (nI t))]) (st2 := [.int (bI (okG (nI 2)))]) rfl rfl rfl ?_
        refine g_pop hC dX3_chances_46 rfl ?_
        refine g_goto hC 55 dX3_chances_47 (by decide) ?_
        have ecell : (tryG c (t - 10) (nI 2)) = (chanceF P np nq nd c t) := by rw [chanceF, if_neg (by omega), if_neg (by omega), if_pos h34f, if_pos hv, tryG, if_pos (by decide)]
        refine g_ws (ws2 := [(hs, .inr (3, [.ref hp, .ref hc])), (hc, .inl (cI, 20, .inl (chanceF P np nq nd c t))), (hp, o2 r ti np nq nd), (r 1, .inl (cI, 5, .inl (fun k_ => nI (P 0 k_)))), (r 2, .inl (cI, 5, .inl (fun k_ => nI (P 1 k_)))), (r 3, .inl (cI, 5, .inl (fun k_ => nI (P 2 k_)))), (r 4, .inl (cI, 5, .inl (fun k_ => nI (P 3 k_)))), (r 5, .inl (cI, 5, .inl (fun k_ => nI (P 4 k_)))), (r 6, .inl (cI, 5, .inl (fun k_ => nI (P 5 k_))))]) (congrArg (fun zz : Nat → Int32 => ([(hs, .inr (3, [.ref hp, .ref hc])), (hc, .inl (cI, 20, .inl zz)), (hp, o2 r ti np nq nd), (r 1, .inl (cI, 5, .inl (fun k_ => nI (P 0 k_)))), (r 2, .inl (cI, 5, .inl (fun k_ => nI (P 1 k_)))), (r 3, .inl (cI, 5, .inl (fun k_ => nI (P 2 k_)))), (r 4, .inl (cI, 5, .inl (fun k_ => nI (P 3 k_)))), (r 5, .inl (cI, 5, .inl (fun k_ => nI (P 4 k_)))), (r 6, .inl (cI, 5, .inl (fun k_ => nI (P 5 k_))))] : va_W)) ecell) ?_
        subst hQ
        refine g_vret hC () hr ?_ rfl dX3_chances_55
        trivial
      refine g_aload_n hC 0 dX3_chances_37 rfl rfl ?_
      refine g_iload_n hC 1 dX3_chances_38 rfl rfl ?_
      refine g_bipush (v := nI 10) hC dX3_chances_39 (by decide +kernel) ?_
      refine g_isub_n (a := t) (b := 10) hC (by omega) dX3_chances_41 ?_
      refine g_iconst (v := nI 2) hC dX3_chances_42 rfl ?_
      refine g_callVip (As := [.int (nI (t - 10)), .int (nI 2)]) (rest := []) hC (nI 0) (c_X3_tryGive_no l D cI cZ hs hp hc c r ti np nq nd (nI (t - 10)) (nI 2) (fun q => hv ((inR_kn (by omega) (by omega)).mp q)) (by first | assumption | omega)) (cwV 2 hC.1.2.2.2.2 gX3_chances_X3_tryGive rfl rfl rfl dV_X3_tryGive ⟨Nat.le_of_ble_eq_true rfl, Nat.le_of_ble_eq_true rfl⟩) rfl rfl rfl rfl (Nat.le_of_ble_eq_true rfl) dX3_chances_43 ⟨Nat.le_of_ble_eq_true rfl, Nat.le_of_ble_eq_true rfl⟩ [0, 1, 2] rfl rfl ?_
      refine g_pop hC dX3_chances_46 rfl ?_
      refine g_goto hC 55 dX3_chances_47 (by decide) ?_
      have ecell : c = (chanceF P np nq nd c t) := by rw [chanceF, if_neg (by omega), if_neg (by omega), if_pos h34f, if_neg hv]
      refine g_ws (ws2 := [(hs, .inr (3, [.ref hp, .ref hc])), (hc, .inl (cI, 20, .inl (chanceF P np nq nd c t))), (hp, o2 r ti np nq nd), (r 1, .inl (cI, 5, .inl (fun k_ => nI (P 0 k_)))), (r 2, .inl (cI, 5, .inl (fun k_ => nI (P 1 k_)))), (r 3, .inl (cI, 5, .inl (fun k_ => nI (P 2 k_)))), (r 4, .inl (cI, 5, .inl (fun k_ => nI (P 3 k_)))), (r 5, .inl (cI, 5, .inl (fun k_ => nI (P 4 k_)))), (r 6, .inl (cI, 5, .inl (fun k_ => nI (P 5 k_))))]) (congrArg (fun zz : Nat → Int32 => ([(hs, .inr (3, [.ref hp, .ref hc])), (hc, .inl (cI, 20, .inl zz)), (hp, o2 r ti np nq nd), (r 1, .inl (cI, 5, .inl (fun k_ => nI (P 0 k_)))), (r 2, .inl (cI, 5, .inl (fun k_ => nI (P 1 k_)))), (r 3, .inl (cI, 5, .inl (fun k_ => nI (P 2 k_)))), (r 4, .inl (cI, 5, .inl (fun k_ => nI (P 3 k_)))), (r 5, .inl (cI, 5, .inl (fun k_ => nI (P 4 k_)))), (r 6, .inl (cI, 5, .inl (fun k_ => nI (P 5 k_))))] : va_W)) ecell) ?_
      subst hQ
      refine g_vret hC () hr ?_ rfl dX3_chances_55
      trivial
    by_cases hv : t - 5 < nq
    · refine g_aload_n hC 0 dX3_chances_20 rfl rfl ?_
      refine g_iload_n hC 1 dX3_chances_21 rfl rfl ?_
      refine g_iconst (v := nI 5) hC dX3_chances_22 rfl ?_
      refine g_isub_n (a := t) (b := 5) hC (by omega) dX3_chances_23 ?_
      refine g_callVi (As := [.int (nI (t - 5))]) (rest := []) hC (c_X3_tryRedeem l D cI cZ hs hp hc c r ti np nq nd P (t - 5) (by first | assumption | omega) (by first | assumption | omega)) (cwV 1 hC.1.2.2.2.2 gX3_chances_X3_tryRedeem rfl rfl rfl dV_X3_tryRedeem ⟨Nat.le_of_ble_eq_true rfl, Nat.le_of_ble_eq_true rfl⟩) rfl rfl rfl rfl (Nat.le_of_ble_eq_true rfl) dX3_chances_24 ⟨Nat.le_of_ble_eq_true rfl, Nat.le_of_ble_eq_true rfl⟩ [0, 1, 2, 3, 4, 5, 6, 7, 8] [] [0, 1, 2, 3, 4, 5, 6, 7, 8] (fun (_ : Unit) => [(hs, .inr (3, [.ref hp, .ref hc])), (hc, .inl (cI, 20, .inl (tryR P c (t - 5)))), (hp, o2 r ti np nq nd), (r 1, .inl (cI, 5, .inl (fun k_ => nI (P 0 k_)))), (r 2, .inl (cI, 5, .inl (fun k_ => nI (P 1 k_)))), (r 3, .inl (cI, 5, .inl (fun k_ => nI (P 2 k_)))), (r 4, .inl (cI, 5, .inl (fun k_ => nI (P 3 k_)))), (r 5, .inl (cI, 5, .inl (fun k_ => nI (P 4 k_)))), (r 6, .inl (cI, 5, .inl (fun k_ => nI (P 5 k_))))]) rfl rfl rfl (fun _ => rfl) (fun r24 z24 hp24 => ?_)
      try dsimp only at hp24
      subst hp24
      refine g_is (ws2 := [(hs, .inr (3, [.ref hp, .ref hc])), (hc, .inl (cI, 20, .inl (tryR P c (t - 5)))), (hp, o2 r ti np nq nd), (r 1, .inl (cI, 5, .inl (fun k_ => nI (P 0 k_)))), (r 2, .inl (cI, 5, .inl (fun k_ => nI (P 1 k_)))), (r 3, .inl (cI, 5, .inl (fun k_ => nI (P 2 k_)))), (r 4, .inl (cI, 5, .inl (fun k_ => nI (P 3 k_)))), (r 5, .inl (cI, 5, .inl (fun k_ => nI (P 4 k_)))), (r 6, .inl (cI, 5, .inl (fun k_ => nI (P 5 k_))))]) (lv2 := [(0, .ref hs), (1, .int (nI t))]) (st2 := [.int (bI (canR P c (t - 5)))]) rfl rfl rfl ?_
      refine g_pop hC dX3_chances_27 rfl ?_
      refine g_goto hC 55 dX3_chances_28 (by decide) ?_
      have ecell : (tryR P c (t - 5)) = (chanceF P np nq nd c t) := by rw [chanceF, if_neg (by omega), if_pos h17f, if_pos hv]
      refine g_ws (ws2 := [(hs, .inr (3, [.ref hp, .ref hc])), (hc, .inl (cI, 20, .inl (chanceF P np nq nd c t))), (hp, o2 r ti np nq nd), (r 1, .inl (cI, 5, .inl (fun k_ => nI (P 0 k_)))), (r 2, .inl (cI, 5, .inl (fun k_ => nI (P 1 k_)))), (r 3, .inl (cI, 5, .inl (fun k_ => nI (P 2 k_)))), (r 4, .inl (cI, 5, .inl (fun k_ => nI (P 3 k_)))), (r 5, .inl (cI, 5, .inl (fun k_ => nI (P 4 k_)))), (r 6, .inl (cI, 5, .inl (fun k_ => nI (P 5 k_))))]) (congrArg (fun zz : Nat → Int32 => ([(hs, .inr (3, [.ref hp, .ref hc])), (hc, .inl (cI, 20, .inl zz)), (hp, o2 r ti np nq nd), (r 1, .inl (cI, 5, .inl (fun k_ => nI (P 0 k_)))), (r 2, .inl (cI, 5, .inl (fun k_ => nI (P 1 k_)))), (r 3, .inl (cI, 5, .inl (fun k_ => nI (P 2 k_)))), (r 4, .inl (cI, 5, .inl (fun k_ => nI (P 3 k_)))), (r 5, .inl (cI, 5, .inl (fun k_ => nI (P 4 k_)))), (r 6, .inl (cI, 5, .inl (fun k_ => nI (P 5 k_))))] : va_W)) ecell) ?_
      subst hQ
      refine g_vret hC () hr ?_ rfl dX3_chances_55
      trivial
    refine g_aload_n hC 0 dX3_chances_20 rfl rfl ?_
    refine g_iload_n hC 1 dX3_chances_21 rfl rfl ?_
    refine g_iconst (v := nI 5) hC dX3_chances_22 rfl ?_
    refine g_isub_n (a := t) (b := 5) hC (by omega) dX3_chances_23 ?_
    refine g_callVip (As := [.int (nI (t - 5))]) (rest := []) hC (nI 0) (c_X3_tryRedeem_no l D cI cZ hs hp hc c r ti np nq nd P (nI (t - 5)) (by first | assumption | omega) (fun q => hv ((inR_kn (by omega) (by omega)).mp q))) (cwV 1 hC.1.2.2.2.2 gX3_chances_X3_tryRedeem rfl rfl rfl dV_X3_tryRedeem ⟨Nat.le_of_ble_eq_true rfl, Nat.le_of_ble_eq_true rfl⟩) rfl rfl rfl rfl (Nat.le_of_ble_eq_true rfl) dX3_chances_24 ⟨Nat.le_of_ble_eq_true rfl, Nat.le_of_ble_eq_true rfl⟩ [0, 1, 2, 3, 4, 5, 6, 7, 8] rfl rfl ?_
    refine g_pop hC dX3_chances_27 rfl ?_
    refine g_goto hC 55 dX3_chances_28 (by decide) ?_
    have ecell : c = (chanceF P np nq nd c t) := by rw [chanceF, if_neg (by omega), if_pos h17f, if_neg hv]
    refine g_ws (ws2 := [(hs, .inr (3, [.ref hp, .ref hc])), (hc, .inl (cI, 20, .inl (chanceF P np nq nd c t))), (hp, o2 r ti np nq nd), (r 1, .inl (cI, 5, .inl (fun k_ => nI (P 0 k_)))), (r 2, .inl (cI, 5, .inl (fun k_ => nI (P 1 k_)))), (r 3, .inl (cI, 5, .inl (fun k_ => nI (P 2 k_)))), (r 4, .inl (cI, 5, .inl (fun k_ => nI (P 3 k_)))), (r 5, .inl (cI, 5, .inl (fun k_ => nI (P 4 k_)))), (r 6, .inl (cI, 5, .inl (fun k_ => nI (P 5 k_))))]) (congrArg (fun zz : Nat → Int32 => ([(hs, .inr (3, [.ref hp, .ref hc])), (hc, .inl (cI, 20, .inl zz)), (hp, o2 r ti np nq nd), (r 1, .inl (cI, 5, .inl (fun k_ => nI (P 0 k_)))), (r 2, .inl (cI, 5, .inl (fun k_ => nI (P 1 k_)))), (r 3, .inl (cI, 5, .inl (fun k_ => nI (P 2 k_)))), (r 4, .inl (cI, 5, .inl (fun k_ => nI (P 3 k_)))), (r 5, .inl (cI, 5, .inl (fun k_ => nI (P 4 k_)))), (r 6, .inl (cI, 5, .inl (fun k_ => nI (P 5 k_))))] : va_W)) ecell) ?_
    subst hQ
    refine g_vret hC () hr ?_ rfl dX3_chances_55
    trivial
  by_cases hv : t < nq
  · refine g_aload_n hC 0 dX3_chances_5 rfl rfl ?_
    refine g_iload_n hC 1 dX3_chances_6 rfl rfl ?_
    refine g_callVi (As := [.int (nI t)]) (rest := []) hC (c_X3_tryPledge l D cI cZ hs hp hc c r ti np nq nd P t (by first | assumption | omega) (by first | assumption | omega)) (cwV 1 hC.1.2.2.2.2 gX3_chances_X3_tryPledge rfl rfl rfl dV_X3_tryPledge ⟨Nat.le_of_ble_eq_true rfl, Nat.le_of_ble_eq_true rfl⟩) rfl rfl rfl rfl (Nat.le_of_ble_eq_true rfl) dX3_chances_7 ⟨Nat.le_of_ble_eq_true rfl, Nat.le_of_ble_eq_true rfl⟩ [0, 1, 2, 3, 4, 5, 6, 7, 8] [] [0, 1, 2, 3, 4, 5, 6, 7, 8] (fun (_ : Unit) => [(hs, .inr (3, [.ref hp, .ref hc])), (hc, .inl (cI, 20, .inl (tryP P c t))), (hp, o2 r ti np nq nd), (r 1, .inl (cI, 5, .inl (fun k_ => nI (P 0 k_)))), (r 2, .inl (cI, 5, .inl (fun k_ => nI (P 1 k_)))), (r 3, .inl (cI, 5, .inl (fun k_ => nI (P 2 k_)))), (r 4, .inl (cI, 5, .inl (fun k_ => nI (P 3 k_)))), (r 5, .inl (cI, 5, .inl (fun k_ => nI (P 4 k_)))), (r 6, .inl (cI, 5, .inl (fun k_ => nI (P 5 k_))))]) rfl rfl rfl (fun _ => rfl) (fun r7 z7 hp7 => ?_)
    try dsimp only at hp7
    subst hp7
    refine g_is (ws2 := [(hs, .inr (3, [.ref hp, .ref hc])), (hc, .inl (cI, 20, .inl (tryP P c t))), (hp, o2 r ti np nq nd), (r 1, .inl (cI, 5, .inl (fun k_ => nI (P 0 k_)))), (r 2, .inl (cI, 5, .inl (fun k_ => nI (P 1 k_)))), (r 3, .inl (cI, 5, .inl (fun k_ => nI (P 2 k_)))), (r 4, .inl (cI, 5, .inl (fun k_ => nI (P 3 k_)))), (r 5, .inl (cI, 5, .inl (fun k_ => nI (P 4 k_)))), (r 6, .inl (cI, 5, .inl (fun k_ => nI (P 5 k_))))]) (lv2 := [(0, .ref hs), (1, .int (nI t))]) (st2 := [.int (bI (canP P c t))]) rfl rfl rfl ?_
    refine g_pop hC dX3_chances_10 rfl ?_
    refine g_goto hC 55 dX3_chances_11 (by decide) ?_
    have ecell : (tryP P c t) = (chanceF P np nq nd c t) := by rw [chanceF, if_pos h2f, if_pos hv]
    refine g_ws (ws2 := [(hs, .inr (3, [.ref hp, .ref hc])), (hc, .inl (cI, 20, .inl (chanceF P np nq nd c t))), (hp, o2 r ti np nq nd), (r 1, .inl (cI, 5, .inl (fun k_ => nI (P 0 k_)))), (r 2, .inl (cI, 5, .inl (fun k_ => nI (P 1 k_)))), (r 3, .inl (cI, 5, .inl (fun k_ => nI (P 2 k_)))), (r 4, .inl (cI, 5, .inl (fun k_ => nI (P 3 k_)))), (r 5, .inl (cI, 5, .inl (fun k_ => nI (P 4 k_)))), (r 6, .inl (cI, 5, .inl (fun k_ => nI (P 5 k_))))]) (congrArg (fun zz : Nat → Int32 => ([(hs, .inr (3, [.ref hp, .ref hc])), (hc, .inl (cI, 20, .inl zz)), (hp, o2 r ti np nq nd), (r 1, .inl (cI, 5, .inl (fun k_ => nI (P 0 k_)))), (r 2, .inl (cI, 5, .inl (fun k_ => nI (P 1 k_)))), (r 3, .inl (cI, 5, .inl (fun k_ => nI (P 2 k_)))), (r 4, .inl (cI, 5, .inl (fun k_ => nI (P 3 k_)))), (r 5, .inl (cI, 5, .inl (fun k_ => nI (P 4 k_)))), (r 6, .inl (cI, 5, .inl (fun k_ => nI (P 5 k_))))] : va_W)) ecell) ?_
    subst hQ
    refine g_vret hC () hr ?_ rfl dX3_chances_55
    trivial
  refine g_aload_n hC 0 dX3_chances_5 rfl rfl ?_
  refine g_iload_n hC 1 dX3_chances_6 rfl rfl ?_
  refine g_callVip (As := [.int (nI t)]) (rest := []) hC (nI 0) (c_X3_tryPledge_no l D cI cZ hs hp hc c r ti np nq nd P (nI t) (by first | assumption | omega) (fun q => hv ((inR_kn (by omega) (by omega)).mp q))) (cwV 1 hC.1.2.2.2.2 gX3_chances_X3_tryPledge rfl rfl rfl dV_X3_tryPledge ⟨Nat.le_of_ble_eq_true rfl, Nat.le_of_ble_eq_true rfl⟩) rfl rfl rfl rfl (Nat.le_of_ble_eq_true rfl) dX3_chances_7 ⟨Nat.le_of_ble_eq_true rfl, Nat.le_of_ble_eq_true rfl⟩ [0, 1, 2, 3, 4, 5, 6, 7, 8] rfl rfl ?_
  refine g_pop hC dX3_chances_10 rfl ?_
  refine g_goto hC 55 dX3_chances_11 (by decide) ?_
  have ecell : c = (chanceF P np nq nd c t) := by rw [chanceF, if_pos h2f, if_neg hv]
  refine g_ws (ws2 := [(hs, .inr (3, [.ref hp, .ref hc])), (hc, .inl (cI, 20, .inl (chanceF P np nq nd c t))), (hp, o2 r ti np nq nd), (r 1, .inl (cI, 5, .inl (fun k_ => nI (P 0 k_)))), (r 2, .inl (cI, 5, .inl (fun k_ => nI (P 1 k_)))), (r 3, .inl (cI, 5, .inl (fun k_ => nI (P 2 k_)))), (r 4, .inl (cI, 5, .inl (fun k_ => nI (P 3 k_)))), (r 5, .inl (cI, 5, .inl (fun k_ => nI (P 4 k_)))), (r 6, .inl (cI, 5, .inl (fun k_ => nI (P 5 k_))))]) (congrArg (fun zz : Nat → Int32 => ([(hs, .inr (3, [.ref hp, .ref hc])), (hc, .inl (cI, 20, .inl zz)), (hp, o2 r ti np nq nd), (r 1, .inl (cI, 5, .inl (fun k_ => nI (P 0 k_)))), (r 2, .inl (cI, 5, .inl (fun k_ => nI (P 1 k_)))), (r 3, .inl (cI, 5, .inl (fun k_ => nI (P 2 k_)))), (r 4, .inl (cI, 5, .inl (fun k_ => nI (P 3 k_)))), (r 5, .inl (cI, 5, .inl (fun k_ => nI (P 4 k_)))), (r 6, .inl (cI, 5, .inl (fun k_ => nI (P 5 k_))))] : va_W)) ecell) ?_
  subst hQ
  refine g_vret hC () hr ?_ rfl dX3_chances_55
  trivial

abbrev rm_X0_remember : Room := { frames := 2, cells := 0, slots := 0, locals := 45 }
set_option maxRecDepth 100000 in
set_option maxHeartbeats 4000000 in
theorem c_X0_remember (l : Launch) (D : va_G) (cI cZ : ClassId) (hac : Nat) (hab : Nat) (f : Nat → Int32) (u : Nat) (cnt : Nat) (hs : Nat) (hp : Nat) (hc : Nat) (c : Nat → Int32) (hu : u < 14) (hn : cnt ≤ 14) : CtV l yX0_remember wsX0_remember rm_X0_remember D cI cZ [.ref hac, .ref hs] [(hac, .inr (0, [.ref hab, .int (nI u), .int (nI cnt)])), (hab, .inl (cI, 280, .inl f)), (hs, .inr (3, [.ref hp, .ref hc])), (hc, .inl (cI, 20, .inl c))] (fun (_ : Unit) => True) (fun (_ : Unit) => [(hac, .inr (0, [.ref hab, .int (nI (ringU u)), .int (nI (ringN cnt))])), (hab, .inl (cI, 280, .inl (saveF f c u))), (hs, .inr (3, [.ref hp, .ref hc])), (hc, .inl (cI, 20, .inl c))]) 0 0 := by
  refine g_startV (ret := none) (own := RX0) (lv0 := [(0, .ref hac), (1, .ref hs)]) (by decide) rfl rfl (Nat.le_of_ble_eq_true rfl) rfl ?_
  intro p e s m args below meth cd A Q hin hr hQ hC
  have hcw0 : ∀ w ∈ wsX00, w ∈ wsX0_remember := fun _ h => List.mem_cons_of_mem _ (List.mem_append_left _ (List.mem_append_right _ h))
  have w1 := hC.1.2.2.2.2 (.fieldLink "PluckBroker$Acts" 11 "PluckBroker$Acts" "states" "[I") (List.mem_of_getElem? (i := 1) rfl)
  have w2 := hC.1.2.2.2.2 (.fieldLink "PluckBroker$Acts" 17 "PluckBroker$Acts" "upcoming" "I") (List.mem_of_getElem? (i := 2) rfl)
  have w3 := hC.1.2.2.2.2 (.fieldLink "PluckBroker$Acts" 25 "PluckBroker$Acts" "count" "I") (List.mem_of_getElem? (i := 3) rfl)
  refine g_aload_n hC 1 dX0_remember_0 rfl rfl ?_
  refine g_aload_n hC 0 dX0_remember_1 rfl rfl ?_
  refine g_get (C := RX0) (T := TX0) (N := 3) (ci := 0) (v := .ref hab) hC hcw0 0 rfl rfl 0 (by decide) w1 (fun _ h => h) rfl dX0_remember_2 ?_
  refine g_aload_n hC 0 dX0_remember_5 rfl rfl ?_
  refine g_get (C := RX0) (T := TX0) (N := 3) (ci := 0) (v := .int (nI u)) hC hcw0 0 rfl rfl 1 (by decide) w2 (fun _ h => h) rfl dX0_remember_6 ?_
  refine g_callVv (As := [.ref hab, .int (nI u)]) (rest := []) hC (c_X3_saveTo l D cI cZ hs hp hc c hab 280 f u (by first | assumption | omega) (by first | assumption | omega)) (cwV 2 hC.1.2.2.2.2 gX0_remember_X3_saveTo rfl rfl rfl dV_X3_saveTo ⟨Nat.le_of_ble_eq_true rfl, Nat.le_of_ble_eq_true rfl⟩) rfl rfl rfl rfl (Nat.le_of_ble_eq_true rfl) dX0_remember_9 ⟨Nat.le_of_ble_eq_true rfl, Nat.le_of_ble_eq_true rfl⟩ [2, 3, 1] [0] [0, 3, 1, 2] (fun (_ : Unit) => [(hac, .inr (0, [.ref hab, .int (nI u), .int (nI cnt)])), (hab, .inl (cI, 280, .inl (saveF f c u))), (hs, .inr (3, [.ref hp, .ref hc])), (hc, .inl (cI, 20, .inl c))]) rfl rfl rfl (fun _ => rfl) (fun z9 hp9 => ?_)
  refine g_is (ws2 := [(hac, .inr (0, [.ref hab, .int (nI u), .int (nI cnt)])), (hab, .inl (cI, 280, .inl (saveF f c u))), (hs, .inr (3, [.ref hp, .ref hc])), (hc, .inl (cI, 20, .inl c))]) (lv2 := [(0, .ref hac), (1, .ref hs)]) (st2 := []) rfl rfl rfl ?_
  refine g_aload_n hC 0 dX0_remember_12 rfl rfl ?_
  refine g_aload_n hC 0 dX0_remember_13 rfl rfl ?_
  refine g_get (C := RX0) (T := TX0) (N := 3) (ci := 0) (v := .int (nI u)) hC hcw0 0 rfl rfl 1 (by decide) w2 (fun _ h => h) rfl dX0_remember_14 ?_
  refine g_iconst (v := nI 1) hC dX0_remember_17 rfl ?_
  refine g_iadd_n (a := u) (b := 1) hC dX0_remember_18 ?_
  refine g_bipush (v := nI 14) hC dX0_remember_19 (by decide +kernel) ?_
  refine g_icmp_ge_n (a := (u + 1)) (b := 14) hC (by omega) (by omega) 33 dX0_remember_21 (by decide) (fun h21t => ?_) (fun h21f => ?_)
  · refine g_iconst (v := nI 0) hC dX0_remember_33 rfl ?_
    refine g_put (C := RX0) (T := TX0) (N := 3) (ci := 0) (v := .int (nI 0)) hC hcw0 tyX0 tyX0_ok nmX0 0 rfl rfl 1 (by decide) w2 (fun _ h => h) rfl (tyX0_ok 1 (by decide)) rfl rfl (Nat.le_of_ble_eq_true rfl) [(hac, .inr (0, [.ref hab, .int (nI 0), .int (nI cnt)])), (hab, .inl (cI, 280, .inl (saveF f c u))), (hs, .inr (3, [.ref hp, .ref hc])), (hc, .inl (cI, 20, .inl c))] rfl dX0_remember_34 ?_
    have efld : (0 : Nat) = ringU u := by rw [ringU, if_neg (by omega)]
    refine g_ws (ws2 := [(hac, .inr (0, [.ref hab, .int (nI (ringU u)), .int (nI cnt)])), (hab, .inl (cI, 280, .inl (saveF f c u))), (hs, .inr (3, [.ref hp, .ref hc])), (hc, .inl (cI, 20, .inl c))]) (congrArg (fun zz : Nat => ([(hac, .inr (0, [.ref hab, .int (nI zz), .int (nI cnt)])), (hab, .inl (cI, 280, .inl (saveF f c u))), (hs, .inr (3, [.ref hp, .ref hc])), (hc, .inl (cI, 20, .inl c))] : va_W)) efld) ?_
    refine g_aload_n hC 0 dX0_remember_37 rfl rfl ?_
    refine g_aload_n hC 0 dX0_remember_38 rfl rfl ?_
    refine g_get (C := RX0) (T := TX0) (N := 3) (ci := 0) (v := .int (nI cnt)) hC hcw0 0 rfl rfl 2 (by decide) w3 (fun _ h => h) rfl dX0_remember_39 ?_
    refine g_bipush (v := nI 14) hC dX0_remember_42 (by decide +kernel) ?_
    refine g_icmp_ge_n (a := cnt) (b := 14) hC (by omega) (by omega) 56 dX0_remember_44 (by decide) (fun h44t => ?_) (fun h44f => ?_)
    · refine g_bipush (v := nI 14) hC dX0_remember_56 (by decide +kernel) ?_
      refine g_put (C := RX0) (T := TX0) (N := 3) (ci := 0) (v := .int (nI 14)) hC hcw0 tyX0 tyX0_ok nmX0 0 rfl rfl 2 (by decide) w3 (fun _ h => h) rfl (tyX0_ok 2 (by decide)) rfl rfl (Nat.le_of_ble_eq_true rfl) [(hac, .inr (0, [.ref hab, .int (nI (ringU u)), .int (nI 14)])), (hab, .inl (cI, 280, .inl (saveF f c u))), (hs, .inr (3, [.ref hp, .ref hc])), (hc, .inl (cI, 20, .inl c))] rfl dX0_remember_58 ?_
      have efld : (14 : Nat) = ringN cnt := by rw [ringN, if_neg (by omega)]
      refine g_ws (ws2 := [(hac, .inr (0, [.ref hab, .int (nI (ringU u)), .int (nI (ringN cnt))])), (hab, .inl (cI, 280, .inl (saveF f c u))), (hs, .inr (3, [.ref hp, .ref hc])), (hc, .inl (cI, 20, .inl c))]) (congrArg (fun zz : Nat => ([(hac, .inr (0, [.ref hab, .int (nI (ringU u)), .int (nI zz)])), (hab, .inl (cI, 280, .inl (saveF f c u))), (hs, .inr (3, [.ref hp, .ref hc])), (hc, .inl (cI, 20, .inl c))] : va_W)) efld) ?_
      subst hQ
      refine g_vret hC () hr ?_ rfl dX0_remember_61
      trivial
    refine g_aload_n hC 0 dX0_remember_47 rfl rfl ?_
    refine g_get (C := RX0) (T := TX0) (N := 3) (ci := 0) (v := .int (nI cnt)) hC hcw0 0 rfl rfl 2 (by decide) w3 (fun _ h => h) rfl dX0_remember_48 ?_
    refine g_iconst (v := nI 1) hC dX0_remember_51 rfl ?_
    refine g_iadd_n (a := cnt) (b := 1) hC dX0_remember_52 ?_
    refine g_goto hC 58 dX0_remember_53 (by decide) ?_
    refine g_put (C := RX0) (T := TX0) (N := 3) (ci := 0) (v := .int (nI (cnt + 1))) hC hcw0 tyX0 tyX0_ok nmX0 0 rfl rfl 2 (by decide) w3 (fun _ h => h) rfl (tyX0_ok 2 (by decide)) rfl rfl (Nat.le_of_ble_eq_true rfl) [(hac, .inr (0, [.ref hab, .int (nI (ringU u)), .int (nI (cnt + 1))])), (hab, .inl (cI, 280, .inl (saveF f c u))), (hs, .inr (3, [.ref hp, .ref hc])), (hc, .inl (cI, 20, .inl c))] rfl dX0_remember_58 ?_
    have efld : (cnt + 1 : Nat) = ringN cnt := by rw [ringN, if_pos h44f]
    refine g_ws (ws2 := [(hac, .inr (0, [.ref hab, .int (nI (ringU u)), .int (nI (ringN cnt))])), (hab, .inl (cI, 280, .inl (saveF f c u))), (hs, .inr (3, [.ref hp, .ref hc])), (hc, .inl (cI, 20, .inl c))]) (congrArg (fun zz : Nat => ([(hac, .inr (0, [.ref hab, .int (nI (ringU u)), .int (nI zz)])), (hab, .inl (cI, 280, .inl (saveF f c u))), (hs, .inr (3, [.ref hp, .ref hc])), (hc, .inl (cI, 20, .inl c))] : va_W)) efld) ?_
    subst hQ
    refine g_vret hC () hr ?_ rfl dX0_remember_61
    trivial
  refine g_aload_n hC 0 dX0_remember_24 rfl rfl ?_
  refine g_get (C := RX0) (T := TX0) (N := 3) (ci := 0) (v := .int (nI u)) hC hcw0 0 rfl rfl 1 (by decide) w2 (fun _ h => h) rfl dX0_remember_25 ?_
  refine g_iconst (v := nI 1) hC dX0_remember_28 rfl ?_
  refine g_iadd_n (a := u) (b := 1) hC dX0_remember_29 ?_
  refine g_goto hC 34 dX0_remember_30 (by decide) ?_
  refine g_put (C := RX0) (T := TX0) (N := 3) (ci := 0) (v := .int (nI (u + 1))) hC hcw0 tyX0 tyX0_ok nmX0 0 rfl rfl 1 (by decide) w2 (fun _ h => h) rfl (tyX0_ok 1 (by decide)) rfl rfl (Nat.le_of_ble_eq_true rfl) [(hac, .inr (0, [.ref hab, .int (nI (u + 1)), .int (nI cnt)])), (hab, .inl (cI, 280, .inl (saveF f c u))), (hs, .inr (3, [.ref hp, .ref hc])), (hc, .inl (cI, 20, .inl c))] rfl dX0_remember_34 ?_
  have efld : (u + 1 : Nat) = ringU u := by rw [ringU, if_pos h21f]
  refine g_ws (ws2 := [(hac, .inr (0, [.ref hab, .int (nI (ringU u)), .int (nI cnt)])), (hab, .inl (cI, 280, .inl (saveF f c u))), (hs, .inr (3, [.ref hp, .ref hc])), (hc, .inl (cI, 20, .inl c))]) (congrArg (fun zz : Nat => ([(hac, .inr (0, [.ref hab, .int (nI zz), .int (nI cnt)])), (hab, .inl (cI, 280, .inl (saveF f c u))), (hs, .inr (3, [.ref hp, .ref hc])), (hc, .inl (cI, 20, .inl c))] : va_W)) efld) ?_
  refine g_aload_n hC 0 dX0_remember_37 rfl rfl ?_
  refine g_aload_n hC 0 dX0_remember_38 rfl rfl ?_
  refine g_get (C := RX0) (T := TX0) (N := 3) (ci := 0) (v := .int (nI cnt)) hC hcw0 0 rfl rfl 2 (by decide) w3 (fun _ h => h) rfl dX0_remember_39 ?_
  refine g_bipush (v := nI 14) hC dX0_remember_42 (by decide +kernel) ?_
  refine g_icmp_ge_n (a := cnt) (b := 14) hC (by omega) (by omega) 56 dX0_remember_44 (by decide) (fun h44t => ?_) (fun h44f => ?_)
  · refine g_bipush (v := nI 14) hC dX0_remember_56 (by decide +kernel) ?_
    refine g_put (C := RX0) (T := TX0) (N := 3) (ci := 0) (v := .int (nI 14)) hC hcw0 tyX0 tyX0_ok nmX0 0 rfl rfl 2 (by decide) w3 (fun _ h => h) rfl (tyX0_ok 2 (by decide)) rfl rfl (Nat.le_of_ble_eq_true rfl) [(hac, .inr (0, [.ref hab, .int (nI (ringU u)), .int (nI 14)])), (hab, .inl (cI, 280, .inl (saveF f c u))), (hs, .inr (3, [.ref hp, .ref hc])), (hc, .inl (cI, 20, .inl c))] rfl dX0_remember_58 ?_
    have efld : (14 : Nat) = ringN cnt := by rw [ringN, if_neg (by omega)]
    refine g_ws (ws2 := [(hac, .inr (0, [.ref hab, .int (nI (ringU u)), .int (nI (ringN cnt))])), (hab, .inl (cI, 280, .inl (saveF f c u))), (hs, .inr (3, [.ref hp, .ref hc])), (hc, .inl (cI, 20, .inl c))]) (congrArg (fun zz : Nat => ([(hac, .inr (0, [.ref hab, .int (nI (ringU u)), .int (nI zz)])), (hab, .inl (cI, 280, .inl (saveF f c u))), (hs, .inr (3, [.ref hp, .ref hc])), (hc, .inl (cI, 20, .inl c))] : va_W)) efld) ?_
    subst hQ
    refine g_vret hC () hr ?_ rfl dX0_remember_61
    trivial
  refine g_aload_n hC 0 dX0_remember_47 rfl rfl ?_
  refine g_get (C := RX0) (T := TX0) (N := 3) (ci := 0) (v := .int (nI cnt)) hC hcw0 0 rfl rfl 2 (by decide) w3 (fun _ h => h) rfl dX0_remember_48 ?_
  refine g_iconst (v := nI 1) hC dX0_remember_51 rfl ?_
  refine g_iadd_n (a := cnt) (b := 1) hC dX0_remember_52 ?_
  refine g_goto hC 58 dX0_remember_53 (by decide) ?_
  refine g_put (C := RX0) (T := TX0) (N := 3) (ci := 0) (v := .int (nI (cnt + 1))) hC hcw0 tyX0 tyX0_ok nmX0 0 rfl rfl 2 (by decide) w3 (fun _ h => h) rfl (tyX0_ok 2 (by decide)) rfl rfl (Nat.le_of_ble_eq_true rfl) [(hac, .inr (0, [.ref hab, .int (nI (ringU u)), .int (nI (cnt + 1))])), (hab, .inl (cI, 280, .inl (saveF f c u))), (hs, .inr (3, [.ref hp, .ref hc])), (hc, .inl (cI, 20, .inl c))] rfl dX0_remember_58 ?_
  have efld : (cnt + 1 : Nat) = ringN cnt := by rw [ringN, if_pos h44f]
  refine g_ws (ws2 := [(hac, .inr (0, [.ref hab, .int (nI (ringU u)), .int (nI (ringN cnt))])), (hab, .inl (cI, 280, .inl (saveF f c u))), (hs, .inr (3, [.ref hp, .ref hc])), (hc, .inl (cI, 20, .inl c))]) (congrArg (fun zz : Nat => ([(hac, .inr (0, [.ref hab, .int (nI (ringU u)), .int (nI zz)])), (hab, .inl (cI, 280, .inl (saveF f c u))), (hs, .inr (3, [.ref hp, .ref hc])), (hc, .inl (cI, 20, .inl c))] : va_W)) efld) ?_
  subst hQ
  refine g_vret hC () hr ?_ rfl dX0_remember_61
  trivial

abbrev rm_X0_takeBack : Room := { frames := 2, cells := 0, slots := 0, locals := 44 }
set_option maxRecDepth 100000 in
set_option maxHeartbeats 4000000 in
theorem c_X0_takeBack (l : Launch) (D : va_G) (cI cZ : ClassId) (hac : Nat) (hab : Nat) (f : Nat → Int32) (u : Nat) (cnt : Nat) (hs : Nat) (hp : Nat) (hc : Nat) (c : Nat → Int32) (hu : u < 14) (hn : cnt ≤ 14) (hp0 : 0 < cnt) : CtV l yX0_takeBack wsX0_takeBack rm_X0_takeBack D cI cZ [.ref hac, .ref hs] [(hac, .inr (0, [.ref hab, .int (nI u), .int (nI cnt)])), (hab, .inl (cI, 280, .inl f)), (hs, .inr (3, [.ref hp, .ref hc])), (hc, .inl (cI, 20, .inl c))] (fun (_ : Unit) => True) (fun (_ : Unit) => [(hac, .inr (0, [.ref hab, .int (nI (ringD u)), .int (nI (cnt - 1))])), (hab, .inl (cI, 280, .inl f)), (hs, .inr (3, [.ref hp, .ref hc])), (hc, .inl (cI, 20, .inl (loadF f (ringD u))))]) 0 0 := by
  refine g_startV (ret := none) (own := RX0) (lv0 := [(0, .ref hac), (1, .ref hs)]) (by decide) rfl rfl (Nat.le_of_ble_eq_true rfl) rfl ?_
  intro p e s m args below meth cd A Q hin hr hQ hC
  have hcw0 : ∀ w ∈ wsX00, w ∈ wsX0_takeBack := fun _ h => List.mem_cons_of_mem _ (List.mem_append_left _ (List.mem_append_right _ h))
  have w1 := hC.1.2.2.2.2 (.fieldLink "PluckBroker$Acts" 17 "PluckBroker$Acts" "upcoming" "I") (List.mem_of_getElem? (i := 1) rfl)
  have w2 := hC.1.2.2.2.2 (.fieldLink "PluckBroker$Acts" 25 "PluckBroker$Acts" "count" "I") (List.mem_of_getElem? (i := 2) rfl)
  have w3 := hC.1.2.2.2.2 (.fieldLink "PluckBroker$Acts" 11 "PluckBroker$Acts" "states" "[I") (List.mem_of_getElem? (i := 3) rfl)
  refine g_aload_n hC 0 dX0_takeBack_0 rfl rfl ?_
  refine g_aload_n hC 0 dX0_takeBack_1 rfl rfl ?_
  refine g_get (C := RX0) (T := TX0) (N := 3) (ci := 0) (v := .int (nI u)) hC hcw0 0 rfl rfl 1 (by decide) w1 (fun _ h => h) rfl dX0_takeBack_2 ?_
  refine g_if_le_n (a := u) hC (by omega) 17 dX0_takeBack_5 (by decide) (fun h5t => ?_) (fun h5f => ?_)
  · refine g_bipush (v := nI 13) hC dX0_takeBack_17 (by decide +kernel) ?_
    refine g_put (C := RX0) (T := TX0) (N := 3) (ci := 0) (v := .int (nI 13)) hC hcw0 tyX0 tyX0_ok nmX0 0 rfl rfl 1 (by decide) w1 (fun _ h => h) rfl (tyX0_ok 1 (by decide)) rfl rfl (Nat.le_of_ble_eq_true rfl) [(hac, .inr (0, [.ref hab, .int (nI 13), .int (nI cnt)])), (hab, .inl (cI, 280, .inl f)), (hs, .inr (3, [.ref hp, .ref hc])), (hc, .inl (cI, 20, .inl c))] rfl dX0_takeBack_19 ?_
    have efld : (13 : Nat) = ringD u := by rw [ringD, if_neg (by omega)]
    refine g_ws (ws2 := [(hac, .inr (0, [.ref hab, .int (nI (ringD u)), .int (nI cnt)])), (hab, .inl (cI, 280, .inl f)), (hs, .inr (3, [.ref hp, .ref hc])), (hc, .inl (cI, 20, .inl c))]) (congrArg (fun zz : Nat => ([(hac, .inr (0, [.ref hab, .int (nI zz), .int (nI cnt)])), (hab, .inl (cI, 280, .inl f)), (hs, .inr (3, [.ref hp, .ref hc])), (hc, .inl (cI, 20, .inl c))] : va_W)) efld) ?_
    refine g_aload_n hC 0 dX0_takeBack_22 rfl rfl ?_
    refine g_dup hC dX0_takeBack_23 rfl ?_
    refine g_get (C := RX0) (T := TX0) (N := 3) (ci := 0) (v := .int (nI cnt)) hC hcw0 0 rfl rfl 2 (by decide) w2 (fun _ h => h) rfl dX0_takeBack_24 ?_
    refine g_iconst (v := nI 1) hC dX0_takeBack_27 rfl ?_
    refine g_isub_n (a := cnt) (b := 1) hC (by omega) dX0_takeBack_28 ?_
    refine g_put (C := RX0) (T := TX0) (N := 3) (ci := 0) (v := .int (nI (cnt - 1))) hC hcw0 tyX0 tyX0_ok nmX0 0 rfl rfl 2 (by decide) w2 (fun _ h => h) rfl (tyX0_ok 2 (by decide)) rfl rfl (Nat.le_of_ble_eq_true rfl) [(hac, .inr (0, [.ref hab, .int (nI (ringD u)), .int (nI (cnt - 1))])), (hab, .inl (cI, 280, .inl f)), (hs, .inr (3, [.ref hp, .ref hc])), (hc, .inl (cI, 20, .inl c))] rfl dX0_takeBack_29 ?_
    refine g_aload_n hC 1 dX0_takeBack_32 rfl rfl ?_
    refine g_aload_n hC 0 dX0_takeBack_33 rfl rfl ?_
    refine g_get (C := RX0) (T := TX0) (N := 3) (ci := 0) (v := .ref hab) hC hcw0 0 rfl rfl 0 (by decide) w3 (fun _ h => h) rfl dX0_takeBack_34 ?_
    refine g_aload_n hC 0 dX0_takeBack_37 rfl rfl ?_
    refine g_get (C := RX0) (T := TX0) (N := 3) (ci := 0) (v := .int (nI (ringD u))) hC hcw0 0 rfl rfl 1 (by decide) w1 (fun _ h => h) rfl dX0_takeBack_38 ?_
    refine g_callVv (As := [.ref hab, .int (nI (ringD u))]) (rest := []) hC (c_X3_loadFrom l D cI cZ hs hp hc c hab 280 f (ringD u) (by have := ringD_lt hu; omega) (by first | assumption | omega)) (cwV 2 hC.1.2.2.2.2 gX0_takeBack_X3_loadFrom rfl rfl rfl dV_X3_loadFrom ⟨Nat.le_of_ble_eq_true rfl, Nat.le_of_ble_eq_true rfl⟩) rfl rfl rfl rfl (Nat.le_of_ble_eq_true rfl) dX0_takeBack_41 ⟨Nat.le_of_ble_eq_true rfl, Nat.le_of_ble_eq_true rfl⟩ [2, 3, 1] [0] [0, 3, 1, 2] (fun (_ : Unit) => [(hac, .inr (0, [.ref hab, .int (nI (ringD u)), .int (nI (cnt - 1))])), (hab, .inl (cI, 280, .inl f)), (hs, .inr (3, [.ref hp, .ref hc])), (hc, .inl (cI, 20, .inl (loadF f (ringD u))))]) rfl rfl rfl (fun _ => rfl) (fun z41 hp41 => ?_)
    refine g_is (ws2 := [(hac, .inr (0, [.ref hab, .int (nI (ringD u)), .int (nI (cnt - 1))])), (hab, .inl (cI, 280, .inl f)), (hs, .inr (3, [.ref hp, .ref hc])), (hc, .inl (cI, 20, .inl (loadF f (ringD u))))]) (lv2 := [(0, .ref hac), (1, .ref hs)]) (st2 := []) rfl rfl rfl ?_
    subst hQ
    refine g_vret hC () hr ?_ rfl dX0_takeBack_44
    trivial
  refine g_aload_n hC 0 dX0_takeBack_8 rfl rfl ?_
  refine g_get (C := RX0) (T := TX0) (N := 3) (ci := 0) (v := .int (nI u)) hC hcw0 0 rfl rfl 1 (by decide) w1 (fun _ h => h) rfl dX0_takeBack_9 ?_
  refine g_iconst (v := nI 1) hC dX0_takeBack_12 rfl ?_
  refine g_isub_n (a := u) (b := 1) hC (by omega) dX0_takeBack_13 ?_
  refine g_goto hC 19 dX0_takeBack_14 (by decide) ?_
  refine g_put (C := RX0) (T := TX0) (N := 3) (ci := 0) (v := .int (nI (u - 1))) hC hcw0 tyX0 tyX0_ok nmX0 0 rfl rfl 1 (by decide) w1 (fun _ h => h) rfl (tyX0_ok 1 (by decide)) rfl rfl (Nat.le_of_ble_eq_true rfl) [(hac, .inr (0, [.ref hab, .int (nI (u - 1)), .int (nI cnt)])), (hab, .inl (cI, 280, .inl f)), (hs, .inr (3, [.ref hp, .ref hc])), (hc, .inl (cI, 20, .inl c))] rfl dX0_takeBack_19 ?_
  have efld : (u - 1 : Nat) = ringD u := by rw [ringD, if_pos h5f]
  refine g_ws (ws2 := [(hac, .inr (0, [.ref hab, .int (nI (ringD u)), .int (nI cnt)])), (hab, .inl (cI, 280, .inl f)), (hs, .inr (3, [.ref hp, .ref hc])), (hc, .inl (cI, 20, .inl c))]) (congrArg (fun zz : Nat => ([(hac, .inr (0, [.ref hab, .int (nI zz), .int (nI cnt)])), (hab, .inl (cI, 280, .inl f)), (hs, .inr (3, [.ref hp, .ref hc])), (hc, .inl (cI, 20, .inl c))] : va_W)) efld) ?_
  refine g_aload_n hC 0 dX0_takeBack_22 rfl rfl ?_
  refine g_dup hC dX0_takeBack_23 rfl ?_
  refine g_get (C := RX0) (T := TX0) (N := 3) (ci := 0) (v := .int (nI cnt)) hC hcw0 0 rfl rfl 2 (by decide) w2 (fun _ h => h) rfl dX0_takeBack_24 ?_
  refine g_iconst (v := nI 1) hC dX0_takeBack_27 rfl ?_
  refine g_isub_n (a := cnt) (b := 1) hC (by omega) dX0_takeBack_28 ?_
  refine g_put (C := RX0) (T := TX0) (N := 3) (ci := 0) (v := .int (nI (cnt - 1))) hC hcw0 tyX0 tyX0_ok nmX0 0 rfl rfl 2 (by decide) w2 (fun _ h => h) rfl (tyX0_ok 2 (by decide)) rfl rfl (Nat.le_of_ble_eq_true rfl) [(hac, .inr (0, [.ref hab, .int (nI (ringD u)), .int (nI (cnt - 1))])), (hab, .inl (cI, 280, .inl f)), (hs, .inr (3, [.ref hp, .ref hc])), (hc, .inl (cI, 20, .inl c))] rfl dX0_takeBack_29 ?_
  refine g_aload_n hC 1 dX0_takeBack_32 rfl rfl ?_
  refine g_aload_n hC 0 dX0_takeBack_33 rfl rfl ?_
  refine g_get (C := RX0) (T := TX0) (N := 3) (ci := 0) (v := .ref hab) hC hcw0 0 rfl rfl 0 (by decide) w3 (fun _ h => h) rfl dX0_takeBack_34 ?_
  refine g_aload_n hC 0 dX0_takeBack_37 rfl rfl ?_
  refine g_get (C := RX0) (T := TX0) (N := 3) (ci := 0) (v := .int (nI (ringD u))) hC hcw0 0 rfl rfl 1 (by decide) w1 (fun _ h => h) rfl dX0_takeBack_38 ?_
  refine g_callVv (As := [.ref hab, .int (nI (ringD u))]) (rest := []) hC (c_X3_loadFrom l D cI cZ hs hp hc c hab 280 f (ringD u) (by have := ringD_lt hu; omega) (by first | assumption | omega)) (cwV 2 hC.1.2.2.2.2 gX0_takeBack_X3_loadFrom rfl rfl rfl dV_X3_loadFrom ⟨Nat.le_of_ble_eq_true rfl, Nat.le_of_ble_eq_true rfl⟩) rfl rfl rfl rfl (Nat.le_of_ble_eq_true rfl) dX0_takeBack_41 ⟨Nat.le_of_ble_eq_true rfl, Nat.le_of_ble_eq_true rfl⟩ [2, 3, 1] [0] [0, 3, 1, 2] (fun (_ : Unit) => [(hac, .inr (0, [.ref hab, .int (nI (ringD u)), .int (nI (cnt - 1))])), (hab, .inl (cI, 280, .inl f)), (hs, .inr (3, [.ref hp, .ref hc])), (hc, .inl (cI, 20, .inl (loadF f (ringD u))))]) rfl rfl rfl (fun _ => rfl) (fun z41 hp41 => ?_)
  refine g_is (ws2 := [(hac, .inr (0, [.ref hab, .int (nI (ringD u)), .int (nI (cnt - 1))])), (hab, .inl (cI, 280, .inl f)), (hs, .inr (3, [.ref hp, .ref hc])), (hc, .inl (cI, 20, .inl (loadF f (ringD u))))]) (lv2 := [(0, .ref hac), (1, .ref hs)]) (st2 := []) rfl rfl rfl ?_
  subst hQ
  refine g_vret hC () hr ?_ rfl dX0_takeBack_44
  trivial

abbrev rm_X0_forget : Room := { frames := 0, cells := 0, slots := 0, locals := 0 }
set_option maxRecDepth 100000 in
set_option maxHeartbeats 4000000 in
theorem c_X0_forget (l : Launch) (D : va_G) (cI cZ : ClassId) (hac : Nat) (hab : Nat) (u : Nat) (cnt : Nat) : CtV l yX0_forget wsX0_forget rm_X0_forget D cI cZ [.ref hac] [(hac, .inr (0, [.ref hab, .int (nI u), .int (nI cnt)]))] (fun (_ : Unit) => True) (fun (_ : Unit) => [(hac, .inr (0, [.ref hab, .int (nI u), .int (nI 0)]))]) 0 0 := by
  refine g_startV (ret := none) (own := RX0) (lv0 := [(0, .ref hac)]) (by decide) rfl rfl (Nat.le_of_ble_eq_true rfl) rfl ?_
  intro p e s m args below meth cd A Q hin hr hQ hC
  have hcw0 : ∀ w ∈ wsX00, w ∈ wsX0_forget := fun _ h => List.mem_cons_of_mem _ (List.mem_append_right _ h)
  have w1 := hC.1.2.2.2.2 (.fieldLink "PluckBroker$Acts" 25 "PluckBroker$Acts" "count" "I") (List.mem_of_getElem? (i := 1) rfl)
  refine g_aload_n hC 0 dX0_forget_0 rfl rfl ?_
  refine g_iconst (v := nI 0) hC dX0_forget_1 rfl ?_
  refine g_put (C := RX0) (T := TX0) (N := 3) (ci := 0) (v := .int (nI 0)) hC hcw0 tyX0 tyX0_ok nmX0 0 rfl rfl 2 (by decide) w1 (fun _ h => h) rfl (tyX0_ok 2 (by decide)) rfl rfl (Nat.le_of_ble_eq_true rfl) [(hac, .inr (0, [.ref hab, .int (nI u), .int (nI 0)]))] rfl dX0_forget_2 ?_
  subst hQ
  refine g_vret hC () hr ?_ rfl dX0_forget_5
  trivial

abbrev rm_X1_add : Room := { frames := 1, cells := 0, slots := 0, locals := 22 }
set_option maxRecDepth 100000 in
set_option maxHeartbeats 4000000 in
theorem c_X1_add (l : Launch) (D : va_G) (cI cZ : ClassId) (has : Nat) (hda : Nat) (hdu : Nat) (f : Nat → Int32) (g : Nat → Int32) (na : Nat) (x : Int32) (y : Int32) (hn : na < 6) : CtV l yX1_add wsX1_add rm_X1_add D cI cZ [.ref has, .int x, .int y] [(has, .inr (1, [.ref hda, .ref hdu, .int (nI na)])), (hda, .inl (cI, 6, .inl f)), (hdu, .inl (cI, 6, .inl g))] (fun (_ : Unit) => True) (fun (_ : Unit) => [(has, .inr (1, [.ref hda, .ref hdu, .int (nI (na + 1))])), (hda, .inl (cI, 6, .inl (upd f na x))), (hdu, .inl (cI, 6, .inl (upd g na y)))]) 0 0 := by
  refine g_startV (ret := none) (own := RX1) (lv0 := [(0, .ref has), (1, .int x), (2, .int y)]) (by decide) rfl rfl (Nat.le_of_ble_eq_true rfl) rfl ?_
  intro p e s m args below meth cd A Q hin hr hQ hC
  have hcw1 : ∀ w ∈ wsX10, w ∈ wsX1_add := fun _ h => List.mem_cons_of_mem _ (List.mem_append_right _ h)
  have w1 := hC.1.2.2.2.2 (.fieldLink "PluckBroker$Asked" 9 "PluckBroker$Asked" "days" "[I") (List.mem_of_getElem? (i := 1) rfl)
  have w2 := hC.1.2.2.2.2 (.fieldLink "PluckBroker$Asked" 18 "PluckBroker$Asked" "count" "I") (List.mem_of_getElem? (i := 2) rfl)
  have w3 := hC.1.2.2.2.2 (.fieldLink "PluckBroker$Asked" 15 "PluckBroker$Asked" "dues" "[I") (List.mem_of_getElem? (i := 3) rfl)
  have w4 := hC.1.2.2.2.2 (.static ⟨"PluckBroker", "put", "([III)V"⟩) (List.mem_of_getElem? (i := 4) rfl)
  have w5 := hC.1.2.2.2.2 (.initialized "PluckBroker") (List.mem_of_getElem? (i := 5) rfl)
  refine g_aload_n hC 0 dX1_add_0 rfl rfl ?_
  refine g_get (C := RX1) (T := TX1) (N := 3) (ci := 1) (v := .ref hda) hC hcw1 0 rfl rfl 0 (by decide) w1 (fun _ h => h) rfl dX1_add_1 ?_
  refine g_aload_n hC 0 dX1_add_4 rfl rfl ?_
  refine g_get (C := RX1) (T := TX1) (N := 3) (ci := 1) (v := .int (nI na)) hC hcw1 0 rfl rfl 2 (by decide) w2 (fun _ h => h) rfl dX1_add_5 ?_
  refine g_iload_n hC 1 dX1_add_8 rfl rfl ?_
  refine g_callSNv (As := [.ref hda, .int (nI na), .int x]) (rest := []) hC (c_X5_put l D cI cZ hda 6 f na x (by first | assumption | omega) (by first | assumption | omega)) ⟨va_cnB 3 hC.1.2.2.2.2 gX1_add_X5_put_n22 rfl rfl rfl (hC.2.2.1.m 11 rfl) w5 dS_X5_put ⟨Nat.le_of_ble_eq_true rfl, Nat.le_of_ble_eq_true rfl⟩, w4, trivial⟩ rfl rfl (Nat.le_of_ble_eq_true rfl) dX1_add_9 ⟨Nat.le_of_ble_eq_true rfl, Nat.le_of_ble_eq_true rfl⟩ [1] [0, 2] [0, 2, 1] (fun (_ : Unit) => [(has, .inr (1, [.ref hda, .ref hdu, .int (nI na)])), (hda, .inl (cI, 6, .inl (upd f na x))), (hdu, .inl (cI, 6, .inl g))]) rfl rfl rfl (fun _ => rfl) (fun z9 hp9 => ?_)
  refine g_is (ws2 := [(has, .inr (1, [.ref hda, .ref hdu, .int (nI na)])), (hda, .inl (cI, 6, .inl (upd f na x))), (hdu, .inl (cI, 6, .inl g))]) (lv2 := [(0, .ref has), (1, .int x), (2, .int y)]) (st2 := []) rfl rfl rfl ?_
  refine g_aload_n hC 0 dX1_add_12 rfl rfl ?_
  refine g_get (C := RX1) (T := TX1) (N := 3) (ci := 1) (v := .ref hdu) hC hcw1 0 rfl rfl 1 (by decide) w3 (fun _ h => h) rfl dX1_add_13 ?_
  refine g_aload_n hC 0 dX1_add_16 rfl rfl ?_
  refine g_get (C := RX1) (T := TX1) (N := 3) (ci := 1) (v := .int (nI na)) hC hcw1 0 rfl rfl 2 (by decide) w2 (fun _ h => h) rfl dX1_add_17 ?_
  refine g_iload_n hC 2 dX1_add_20 rfl rfl ?_
  refine g_callSNv (As := [.ref hdu, .int (nI na), .int y]) (rest := []) hC (c_X5_put l D cI cZ hdu 6 g na y (by first | assumption | omega) (by first | assumption | omega)) ⟨va_cnB 3 hC.1.2.2.2.2 gX1_add_X5_put_n22 rfl rfl rfl (hC.2.2.1.m 11 rfl) w5 dS_X5_put ⟨Nat.le_of_ble_eq_true rfl, Nat.le_of_ble_eq_true rfl⟩, w4, trivial⟩ rfl rfl (Nat.le_of_ble_eq_true rfl) dX1_add_21 ⟨Nat.le_of_ble_eq_true rfl, Nat.le_of_ble_eq_true rfl⟩ [2] [0, 1] [0, 1, 2] (fun (_ : Unit) => [(has, .inr (1, [.ref hda, .ref hdu, .int (nI na)])), (hda, .inl (cI, 6, .inl (upd f na x))), (hdu, .inl (cI, 6, .inl (upd g na y)))]) rfl rfl rfl (fun _ => rfl) (fun z21 hp21 => ?_)
  refine g_is (ws2 := [(has, .inr (1, [.ref hda, .ref hdu, .int (nI na)])), (hda, .inl (cI, 6, .inl (upd f na x))), (hdu, .inl (cI, 6, .inl (upd g na y)))]) (lv2 := [(0, .ref has), (1, .int x), (2, .int y)]) (st2 := []) rfl rfl rfl ?_
  refine g_aload_n hC 0 dX1_add_24 rfl rfl ?_
  refine g_dup hC dX1_add_25 rfl ?_
  refine g_get (C := RX1) (T := TX1) (N := 3) (ci := 1) (v := .int (nI na)) hC hcw1 0 rfl rfl 2 (by decide) w2 (fun _ h => h) rfl dX1_add_26 ?_
  refine g_iconst (v := nI 1) hC dX1_add_29 rfl ?_
  refine g_iadd_n (a := na) (b := 1) hC dX1_add_30 ?_
  refine g_put (C := RX1) (T := TX1) (N := 3) (ci := 1) (v := .int (nI (na + 1))) hC hcw1 tyX1 tyX1_ok nmX1 0 rfl rfl 2 (by decide) w2 (fun _ h => h) rfl (tyX1_ok 2 (by decide)) rfl rfl (Nat.le_of_ble_eq_true rfl) [(has, .inr (1, [.ref hda, .ref hdu, .int (nI (na + 1))])), (hda, .inl (cI, 6, .inl (upd f na x))), (hdu, .inl (cI, 6, .inl (upd g na y)))] rfl dX1_add_31 ?_
  subst hQ
  refine g_vret hC () hr ?_ rfl dX1_add_34
  trivial

abbrev rm_X1_fits : Room := { frames := 1, cells := 0, slots := 0, locals := 23 }
set_option maxRecDepth 100000 in
set_option maxHeartbeats 4000000 in
theorem c_X1_fits (l : Launch) (D : va_G) (cI cZ : ClassId) (has : Nat) (hda : Nat) (hdu : Nat) (f : Nat → Int32) (g : Nat → Int32) (na : Nat) (kk : Int32) (w : Int32) (hn : na ≤ 6) : CtI l yX1_fits wsX1_fits rm_X1_fits D cI cZ [.ref has, .int kk, .int w] [(has, .inr (1, [.ref hda, .ref hdu, .int (nI na)])), (hda, .inl (cI, 6, .inl f)), (hdu, .inl (cI, 6, .inl g))] (fun r (_ : Unit) => r = bI (fitsF f g na kk w)) (fun (_ : Unit) => [(has, .inr (1, [.ref hda, .ref hdu, .int (nI na)])), (hda, .inl (cI, 6, .inl f)), (hdu, .inl (cI, 6, .inl g))]) 0 0 := by
  refine g_startI (ret := (some .boolean)) (own := RX1) (lv0 := [(0, .ref has), (1, .int kk), (2, .int w)]) (by decide) rfl rfl (Nat.le_of_ble_eq_true rfl) rfl ?_
  intro p e s m args below meth cd A Q hin hr hQ hC
  have hcw1 : ∀ w ∈ wsX10, w ∈ wsX1_fits := fun _ h => List.mem_cons_of_mem _ (List.mem_append_right _ h)
  have w1 := hC.1.2.2.2.2 (.fieldLink "PluckBroker$Asked" 18 "PluckBroker$Asked" "count" "I") (List.mem_of_getElem? (i := 1) rfl)
  have w2 := hC.1.2.2.2.2 (.fieldLink "PluckBroker$Asked" 9 "PluckBroker$Asked" "days" "[I") (List.mem_of_getElem? (i := 2) rfl)
  have w3 := hC.1.2.2.2.2 (.fieldLink "PluckBroker$Asked" 15 "PluckBroker$Asked" "dues" "[I") (List.mem_of_getElem? (i := 3) rfl)
  have w4 := hC.1.2.2.2.2 (.static ⟨"PluckBroker", "cell", "([II)I"⟩) (List.mem_of_getElem? (i := 4) rfl)
  have w5 := hC.1.2.2.2.2 (.initialized "PluckBroker") (List.mem_of_getElem? (i := 5) rfl)
  have w7 := hC.1.2.2.2.2 (.static ⟨"PluckBroker", "dueFor", "(IIII)I"⟩) (List.mem_of_getElem? (i := 7) rfl)
  refine g_iconst (v := nI 0) hC dX1_fits_0 rfl ?_
  refine g_istore_n (lv' := [(0, .ref has), (1, .int kk), (2, .int w), (3, .int (nI 0))]) hC [1, 2, 3, 0] dX1_fits_1 rfl (by decide) rfl ?_
  have L2 : ∀ (n : Nat) (i : Nat), (i ≤ na) → (fitsF f g i kk w) → na - i < n → G p l e rm_X1_fits s m args below meth cd D A 0 0 Q 5 [(has, .inr (1, [.ref hda, .ref hdu, .int (nI na)])), (hda, .inl (cI, 6, .inl f)), (hdu, .inl (cI, 6, .inl g))] 2 [(0, .ref has), (1, .int kk), (2, .int w), (3, .int (nI i))] [] := by
    intro n
    induction n with
    | zero => intro i hi hf hn; exact absurd hn (Nat.not_lt_zero _)
    | succ n ih2 =>
      intro i hi hf hn
      refine g_iload_n hC 3 dX1_fits_2 rfl rfl ?_
      refine g_aload_n hC 0 dX1_fits_3 rfl rfl ?_
      refine g_get (C := RX1) (T := TX1) (N := 3) (ci := 1) (v := .int (nI na)) hC hcw1 0 rfl rfl 2 (by decide) w1 (fun _ h => h) rfl dX1_fits_4 ?_
      refine g_icmp_ge_n (a := i) (b := na) hC (by omega) (by omega) 48 dX1_fits_7 (by decide) (fun h7t => ?_) (fun h7f => ?_)
      · refine g_iconst (v := nI 1) hC dX1_fits_48 rfl ?_
        subst hQ
        refine g_zret (v := nI 1) hC () hr (by decide +kernel) ?_ rfl dX1_fits_49
        have ei : i = na := by omega
        rw [ei] at hf; exact (bI_t hf).symm
      refine g_aload_n hC 0 dX1_fits_10 rfl rfl ?_
      refine g_get (C := RX1) (T := TX1) (N := 3) (ci := 1) (v := .ref hda) hC hcw1 0 rfl rfl 0 (by decide) w2 (fun _ h => h) rfl dX1_fits_11 ?_
      refine g_iload_n hC 3 dX1_fits_14 rfl rfl ?_
      refine g_callSNip (As := [.ref hda, .int (nI i)]) (rest := []) hC (f i) (c_X5_cell l D cI cZ hda 6 f i (by first | assumption | omega) (by first | assumption | omega)) ⟨va_cnB 2 hC.1.2.2.2.2 gX1_fits_X5_cell_n26 rfl rfl rfl (hC.2.2.1.m 12 rfl) w5 dS_X5_cell ⟨Nat.le_of_ble_eq_true rfl, Nat.le_of_ble_eq_true rfl⟩, w4, trivial⟩ rfl rfl (Nat.le_of_ble_eq_true rfl) dX1_fits_15 ⟨Nat.le_of_ble_eq_true rfl, Nat.le_of_ble_eq_true rfl⟩ [1] rfl rfl ?_
      refine g_istore (lv' := [(0, .ref has), (1, .int kk), (2, .int w), (3, .int (nI i)), (4, .int (f i))]) hC [1, 2, 3, 4, 0] dX1_fits_18 (by decide) rfl ?_
      refine g_iload_n hC 1 dX1_fits_20 rfl rfl ?_
      refine g_iload_n hC 2 dX1_fits_21 rfl rfl ?_
      refine g_iload hC 4 dX1_fits_22 rfl ?_
      refine g_iload hC 4 dX1_fits_24 rfl ?_
      refine g_callSNip (As := [.int kk, .int w, .int (f i), .int (f i)]) (rest := []) hC (dueF kk w (f i) (f i)) (c_X5_dueFor l D cI cZ kk w (f i) (f i)) ⟨va_cnB 4 hC.1.2.2.2.2 gX1_fits_X5_dueFor_n30 rfl rfl rfl (hC.2.2.1.m 13 rfl) w5 dS_X5_dueFor ⟨Nat.le_of_ble_eq_true rfl, Nat.le_of_ble_eq_true rfl⟩, w7, trivial⟩ rfl rfl (Nat.le_of_ble_eq_true rfl) dX1_fits_26 ⟨Nat.le_of_ble_eq_true rfl, Nat.le_of_ble_eq_true rfl⟩ [] rfl rfl ?_
      refine g_aload_n hC 0 dX1_fits_29 rfl rfl ?_
      refine g_get (C := RX1) (T := TX1) (N := 3) (ci := 1) (v := .ref hdu) hC hcw1 0 rfl rfl 1 (by decide) w3 (fun _ h => h) rfl dX1_fits_30 ?_
      refine g_iload_n hC 3 dX1_fits_33 rfl rfl ?_
      refine g_callSNip (As := [.ref hdu, .int (nI i)]) (rest := [.int (dueF kk w (f i) (f i))]) hC (g i) (c_X5_cell l D cI cZ hdu 6 g i (by first | assumption | omega) (by first | assumption | omega)) ⟨va_cnB 2 hC.1.2.2.2.2 gX1_fits_X5_cell_n26 rfl rfl rfl (hC.2.2.1.m 12 rfl) w5 dS_X5_cell ⟨Nat.le_of_ble_eq_true rfl, Nat.le_of_ble_eq_true rfl⟩, w4, trivial⟩ rfl rfl (Nat.le_of_ble_eq_true rfl) dX1_fits_34 ⟨Nat.le_of_ble_eq_true rfl, Nat.le_of_ble_eq_true rfl⟩ [2] rfl rfl ?_
      refine g_icmp_eq hC 42 dX1_fits_37 (by decide) (fun h37t => ?_) (fun h37f => ?_)
      · refine g_iinc (v := nI (i + 1)) (lv' := [(0, .ref has), (1, .int kk), (2, .int w), (3, .int (nI (i + 1))), (4, .int (f i))]) hC 3 [1, 2, 3, 0, 4] dX1_fits_42 rfl (nI_add _ 1) (by decide) rfl ?_
        refine g_goto hC 2 dX1_fits_45 (by decide) ?_
        refine g_lv [0, 1, 2, 3] (lv2 := [(0, .ref has), (1, .int kk), (2, .int w), (3, .int (nI (i + 1)))]) rfl ?_
        refine ih2 (i + 1) ?_ ?_ ?_
        · omega
        · intro q h
          rcases Nat.lt_succ_iff_lt_or_eq.mp h with h | h
          · exact hf q h
          · rw [h]; exact h37t
        · omega
      refine g_iconst (v := nI 0) hC dX1_fits_40 rfl ?_
      subst hQ
      refine g_zret (v := nI 0) hC () hr (by decide +kernel) ?_ rfl dX1_fits_41
      exact (bI_f (fun q => h37f (q i (by omega)))).symm
  refine L2 _ 0 ?_ ?_ (Nat.lt_succ_self _)
  · omega
  · exact fun q h => absurd h (Nat.not_lt_zero _)
