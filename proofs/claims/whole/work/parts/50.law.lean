/-! the law: its loop -/
set_option maxRecDepth 20000 in
theorem nf_in : ∀ w ∈ gNF.map (fun q => Cond.fieldLinkNest q.1 q.2.1 q.2.2.1 q.2.2.2.1 q.2.2.2.2.1 q.2.2.2.2.2), w ∈ lw_tbl := lw_in_of [65, 89, 90, 92, 93, 94, 96, 97, 98, 100, 101, 102, 148, 165] (by decide +kernel)
set_option maxRecDepth 20000 in
theorem nm_in : ∀ w ∈ gNM.map (fun q => Cond.methodLinkNest q.1 q.2.1 q.2.2.1 q.2.2.2), w ∈ lw_tbl := lw_in_of [59, 77, 141, 158, 212, 235, 254, 279, 284, 297, 376, 563, 576, 577] (by decide +kernel)
theorem law_gN {args : Array Value} {s : State} (hts : ∀ w ∈ lw_tbl, w.before args s = true) : gN s :=
  ⟨fun q hq => va_Nw.of rfl (hts _ (nf_in _ (List.mem_map_of_mem hq))), fun q hq => va_Nw.of rfl (hts _ (nm_in _ (List.mem_map_of_mem hq)))⟩
set_option maxRecDepth 100000 in
set_option maxHeartbeats 8000000 in
theorem law_loop {p : Program} {l : Launch} {e : Env} {s : State} {m : MethodId} {args : Array Value} {below : List Frame} {meth : Method} {cd : Code} {D : va_G} {cI cZ : ClassId} {A : Nat → Prop} {Q : State → Prop} (hC : gCx p s m args meth cd D cI cZ A cL_law 4 wsL_law RL) {b : Nat} {xo : Nat} {xt : Nat} {xp : Nat} {xd : Nat} {xn : Nat} {xa : Nat} {xc : Nat} {xs : Nat} {xk : Nat} {xtb : Nat} {r : Nat → Nat} {dr : Nat → Nat} {xnc : Nat} {xgc : Nat} {xcb : Nat} {xsd : Nat} {xsu : Nat} {mo : Nat} {rm : Nat → Nat} {L : Nat} {sc : Nat → Int32} (hX : va_X b L sc s s.heap) (hbl : b < s.heap.size) (hbA : ¬ A b) (hL : L ≤ 256)
    (hend : ∀ (i : Nat) (kn : Nat) (ch : Int64) (tl : Nat) (cur : Nat) (tx : Nat → Nat) (ti : Int32) (np : Nat) (nq : Nat) (nd : Nat) (pu : Nat → Nat) (P : Nat → Nat → Nat) (dti : Int32) (dnp : Nat) (dnq : Nat) (dnd : Nat) (dpu : Nat → Nat) (dP : Nat → Nat → Nat) (c : Nat → Int32) (g : Nat → Int32) (u : Nat) (cnt : Nat) (f : Nat → Int32) (na : Nat) (fd : Nat → Int32) (fu : Nat → Int32) (kf : Nat → Int32) (pl : Int32) (rt : Int32) (rp : Int32) (rq : Int32) (rd : Int32) (rw : Int32) (rx : Int32) (tm : Int32) (tf : Int32) (sm : Int32) (sf : Int32) (f7 : Nat → Int32) (f8 : Nat → Int32) (f9 : Nat → Int32) (g6 : Nat → Int32) (bk : Nat → Int32) (mk : Nat → Int32) (ik : Nat → Int32) (gn : Nat → Int32) (vv : Nat → Int32), G p l e room_1 s m args below meth cd D A 49 1094 Q 4 (lwW cI cZ xo xt xp xd xn xa xc xs xk xtb r dr xnc xgc xcb xsd xsu mo rm kn ch tl cur tx ti np nq nd pu P dti dnp dnq dnd dpu dP c g u cnt f na fd fu kf pl rt rp rq rd rw rx tm tf sm sf f7 f8 f9 g6 bk mk ik gn vv) 1020 [(0, .ref b), (1, .ref xo), (2, .ref mo), (3, .int (nI (4 * i)))] []) :
    ∀ (n i : Nat) (kn : Nat) (ch : Int64) (tl : Nat) (cur : Nat) (tx : Nat → Nat) (ti : Int32) (np : Nat) (nq : Nat) (nd : Nat) (pu : Nat → Nat) (P : Nat → Nat → Nat) (dti : Int32) (dnp : Nat) (dnq : Nat) (dnd : Nat) (dpu : Nat → Nat) (dP : Nat → Nat → Nat) (c : Nat → Int32) (g : Nat → Int32) (u : Nat) (cnt : Nat) (f : Nat → Int32) (na : Nat) (fd : Nat → Int32) (fu : Nat → Int32) (kf : Nat → Int32) (pl : Int32) (rt : Int32) (rp : Int32) (rq : Int32) (rd : Int32) (rw : Int32) (rx : Int32) (tm : Int32) (tf : Int32) (sm : Int32) (sf : Int32) (f7 : Nat → Int32) (f8 : Nat → Int32) (f9 : Nat → Int32) (g6 : Nat → Int32) (bk : Nat → Int32) (mk : Nat → Int32) (ik : Nat → Int32) (gn : Nat → Int32) (vv : Nat → Int32), (tl ≤ 48) → (∀ k, tx k < 256) → (na ≤ 6) → (WFP np nq nd P) → (Good P nq nd i c) → (Ring P nq nd i f u cnt bk) → (Kep P nq nd i kf kn mk ik) → 4 * i ≤ L → L - 4 * i < n → G p l e room_1 s m args below meth cd D A 49 1094 Q 4 (lwW cI cZ xo xt xp xd xn xa xc xs xk xtb r dr xnc xgc xcb xsd xsu mo rm kn ch tl cur tx ti np nq nd pu P dti dnp dnq dnd dpu dP c g u cnt f na fd fu kf pl rt rp rq rd rw rx tm tf sm sf f7 f8 f9 g6 bk mk ik gn vv) 18 [(0, .ref b), (1, .ref xo), (2, .ref mo), (3, .int (nI (4 * i)))] [] := by
  intro n
  induction n with
  | zero => intro i kn ch tl cur tx ti np nq nd pu P dti dnp dnq dnd dpu dP c g u cnt f na fd fu kf pl rt rp rq rd rw rx tm tf sm sf f7 f8 f9 g6 bk mk ik gn vv hl htx hna hW hGo hRi hKe h4 hn; exact absurd hn (Nat.not_lt_zero _)
  | succ n ih =>
    intro i kn ch tl cur tx ti np nq nd pu P dti dnp dnq dnd dpu dP c g u cnt f na fd fu kf pl rt rp rq rd rw rx tm tf sm sf f7 f8 f9 g6 bk mk ik gn vv hl htx hna hW hGo hRi hKe h4 hn
    refine g_iload_n hC 3 dL_law_18 rfl rfl ?_
    refine g_aload_n hC 0 dL_law_19 rfl rfl ?_
    refine g_slen hC hX hbl hbA dL_law_20 ?_
    refine g_iconst (v := nI 4) hC dL_law_21 rfl ?_
    refine g_isub hC dL_law_22 ?_
    refine g_icmp_gt hC 1020 dL_law_23 (by decide) (fun _ => ?_) (fun q => ?_)
    · exact hend i kn ch tl cur tx ti np nq nd pu P dti dnp dnq dnd dpu dP c g u cnt f na fd fu kf pl rt rp rq rd rw rx tm tf sm sf f7 f8 f9 g6 bk mk ik gn vv
    have hiL : 4 * i + 4 ≤ L := by
      rw [Int32.lt_iff_toInt_lt, pk_sub_toInt (by omega) (by omega), nI_toInt (by omega)] at q
      omega
    have kk : LK p l e s m args below meth cd D cI cZ A Q b xo xt xp xd xn xa xc xs xk xtb r dr xnc xgc xcb xsd xsu mo rm i := by
      intro kn ch tl cur tx ti np nq nd pu P dti dnp dnq dnd dpu dP c g u cnt f na fd fu kf pl rt rp rq rd rw rx tm tf sm sf f7 f8 f9 g6 bk mk ik gn vv hl htx hna hW hGo hRi hKe
      refine g_iinc (v := nI (4 * (i + 1))) (lv' := [(0, .ref b), (1, .ref xo), (2, .ref mo), (3, .int (nI (4 * (i + 1))))]) hC 3 [1, 2, 3, 0] dL_law_1014 rfl ((nI_add _ 4).trans (congrArg nI (by omega))) (by decide) rfl ?_
      refine g_goto hC 18 dL_law_1017 (by decide) ?_
      exact ih (i + 1) kn ch tl cur tx ti np nq nd pu P dti dnp dnq dnd dpu dP c g u cnt f na fd fu kf pl rt rp rq rd rw rx tm tf sm sf f7 f8 f9 g6 bk mk ik gn vv hl htx hna hW hGo hRi hKe (by omega) (by omega)
    refine g_aload_n hC 0 dL_law_26 rfl rfl ?_
    refine g_iload_n hC 3 dL_law_27 rfl rfl ?_
    refine g_sld hC hX hbl hbA (4 * i) rfl (by omega) (by omega) dL_law_28 ?_
    refine g_bipush (v := nI 31) hC dL_law_29 (by decide +kernel) ?_
    refine g_iand hC dL_law_31 ?_
    obtain ⟨sw, hsw⟩ : ∃ y, y = sc (4 * i) &&& nI 31 := ⟨_, rfl⟩
    refine g_top (y := sw) hsw.symm ?_
    by_cases k0 : sw = nI 0
    · refine g_top (y := nI 0) k0 ?_
      refine g_tableIn (off := 132) hC 164 dL_law_32 (by decide +kernel) (by decide +kernel) (by decide +kernel) (by decide) ?_
      exact lc_0 hC hX hbl hbA hL i hiL kn ch tl cur tx ti np nq nd pu P dti dnp dnq dnd dpu dP c g u cnt f na fd fu kf pl rt rp rq rd rw rx tm tf sm sf f7 f8 f9 g6 bk mk ik gn vv hl htx hna hW hGo hRi hKe kk
    by_cases k1 : sw = nI 1
    · refine g_top (y := nI 1) k1 ?_
      refine g_tableIn (off := 155) hC 187 dL_law_32 (by decide +kernel) (by decide +kernel) (by decide +kernel) (by decide) ?_
      exact lc_1 hC hX hbl hbA hL i hiL kn ch tl cur tx ti np nq nd pu P dti dnp dnq dnd dpu dP c g u cnt f na fd fu kf pl rt rp rq rd rw rx tm tf sm sf f7 f8 f9 g6 bk mk ik gn vv hl htx hna hW hGo hRi hKe kk
    by_cases k2 : sw = nI 2
    · refine g_top (y := nI 2) k2 ?_
      refine g_tableIn (off := 168) hC 200 dL_law_32 (by decide +kernel) (by decide +kernel) (by decide +kernel) (by decide) ?_
      exact lc_2 hC hX hbl hbA hL i hiL kn ch tl cur tx ti np nq nd pu P dti dnp dnq dnd dpu dP c g u cnt f na fd fu kf pl rt rp rq rd rw rx tm tf sm sf f7 f8 f9 g6 bk mk ik gn vv hl htx hna hW hGo hRi hKe kk
    by_cases k3 : sw = nI 3
    · refine g_top (y := nI 3) k3 ?_
      refine g_tableIn (off := 181) hC 213 dL_law_32 (by decide +kernel) (by decide +kernel) (by decide +kernel) (by decide) ?_
      exact lc_3 hC hX hbl hbA hL i hiL kn ch tl cur tx ti np nq nd pu P dti dnp dnq dnd dpu dP c g u cnt f na fd fu kf pl rt rp rq rd rw rx tm tf sm sf f7 f8 f9 g6 bk mk ik gn vv hl htx hna hW hGo hRi hKe kk
    by_cases k4 : sw = nI 4
    · refine g_top (y := nI 4) k4 ?_
      refine g_tableIn (off := 194) hC 226 dL_law_32 (by decide +kernel) (by decide +kernel) (by decide +kernel) (by decide) ?_
      exact lc_4 hC hX hbl hbA hL i hiL kn ch tl cur tx ti np nq nd pu P dti dnp dnq dnd dpu dP c g u cnt f na fd fu kf pl rt rp rq rd rw rx tm tf sm sf f7 f8 f9 g6 bk mk ik gn vv hl htx hna hW hGo hRi hKe kk
    by_cases k5 : sw = nI 5
    · refine g_top (y := nI 5) k5 ?_
      refine g_tableIn (off := 217) hC 249 dL_law_32 (by decide +kernel) (by decide +kernel) (by decide +kernel) (by decide) ?_
      exact lc_5 hC hX hbl hbA hL i hiL kn ch tl cur tx ti np nq nd pu P dti dnp dnq dnd dpu dP c g u cnt f na fd fu kf pl rt rp rq rd rw rx tm tf sm sf f7 f8 f9 g6 bk mk ik gn vv hl htx hna hW hGo hRi hKe kk
    by_cases k6 : sw = nI 6
    · refine g_top (y := nI 6) k6 ?_
      refine g_tableIn (off := 250) hC 282 dL_law_32 (by decide +kernel) (by decide +kernel) (by decide +kernel) (by decide) ?_
      exact lc_6 hC hX hbl hbA hL i hiL kn ch tl cur tx ti np nq nd pu P dti dnp dnq dnd dpu dP c g u cnt f na fd fu kf pl rt rp rq rd rw rx tm tf sm sf f7 f8 f9 g6 bk mk ik gn vv hl htx hna hW hGo hRi hKe kk
    by_cases k7 : sw = nI 7
    · refine g_top (y := nI 7) k7 ?_
      refine g_tableIn (off := 283) hC 315 dL_law_32 (by decide +kernel) (by decide +kernel) (by decide +kernel) (by decide) ?_
      exact lc_7 hC hX hbl hbA hL i hiL kn ch tl cur tx ti np nq nd pu P dti dnp dnq dnd dpu dP c g u cnt f na fd fu kf pl rt rp rq rd rw rx tm tf sm sf f7 f8 f9 g6 bk mk ik gn vv hl htx hna hW hGo hRi hKe kk
    by_cases k8 : sw = nI 8
    · refine g_top (y := nI 8) k8 ?_
      refine g_tableIn (off := 316) hC 348 dL_law_32 (by decide +kernel) (by decide +kernel) (by decide +kernel) (by decide) ?_
      exact lc_8 hC hX hbl hbA hL i hiL kn ch tl cur tx ti np nq nd pu P dti dnp dnq dnd dpu dP c g u cnt f na fd fu kf pl rt rp rq rd rw rx tm tf sm sf f7 f8 f9 g6 bk mk ik gn vv hl htx hna hW hGo hRi hKe kk
    by_cases k9 : sw = nI 9
    · refine g_top (y := nI 9) k9 ?_
      refine g_tableIn (off := 329) hC 361 dL_law_32 (by decide +kernel) (by decide +kernel) (by decide +kernel) (by decide) ?_
      exact lc_9 hC hX hbl hbA hL i hiL kn ch tl cur tx ti np nq nd pu P dti dnp dnq dnd dpu dP c g u cnt f na fd fu kf pl rt rp rq rd rw rx tm tf sm sf f7 f8 f9 g6 bk mk ik gn vv hl htx hna hW hGo hRi hKe kk
    by_cases k10 : sw = nI 10
    · refine g_top (y := nI 10) k10 ?_
      refine g_tableIn (off := 352) hC 384 dL_law_32 (by decide +kernel) (by decide +kernel) (by decide +kernel) (by decide) ?_
      exact lc_10 hC hX hbl hbA hL i hiL kn ch tl cur tx ti np nq nd pu P dti dnp dnq dnd dpu dP c g u cnt f na fd fu kf pl rt rp rq rd rw rx tm tf sm sf f7 f8 f9 g6 bk mk ik gn vv hl htx hna hW hGo hRi hKe kk
    by_cases k11 : sw = nI 11
    · refine g_top (y := nI 11) k11 ?_
      refine g_tableIn (off := 375) hC 407 dL_law_32 (by decide +kernel) (by decide +kernel) (by decide +kernel) (by decide) ?_
      exact lc_11 hC hX hbl hbA hL i hiL kn ch tl cur tx ti np nq nd pu P dti dnp dnq dnd dpu dP c g u cnt f na fd fu kf pl rt rp rq rd rw rx tm tf sm sf f7 f8 f9 g6 bk mk ik gn vv hl htx hna hW hGo hRi hKe kk
    by_cases k12 : sw = nI 12
    · refine g_top (y := nI 12) k12 ?_
      refine g_tableIn (off := 408) hC 440 dL_law_32 (by decide +kernel) (by decide +kernel) (by decide +kernel) (by decide) ?_
      exact lc_12 hC hX hbl hbA hL i hiL kn ch tl cur tx ti np nq nd pu P dti dnp dnq dnd dpu dP c g u cnt f na fd fu kf pl rt rp rq rd rw rx tm tf sm sf f7 f8 f9 g6 bk mk ik gn vv hl htx hna hW hGo hRi hKe kk
    by_cases k13 : sw = nI 13
    · refine g_top (y := nI 13) k13 ?_
      refine g_tableIn (off := 421) hC 453 dL_law_32 (by decide +kernel) (by decide +kernel) (by decide +kernel) (by decide) ?_
      exact lc_13 hC hX hbl hbA hL i hiL kn ch tl cur tx ti np nq nd pu P dti dnp dnq dnd dpu dP c g u cnt f na fd fu kf pl rt rp rq rd rw rx tm tf sm sf f7 f8 f9 g6 bk mk ik gn vv hl htx hna hW hGo hRi hKe kk
    by_cases k14 : sw = nI 14
    · refine g_top (y := nI 14) k14 ?_
      refine g_tableIn (off := 454) hC 486 dL_law_32 (by decide +kernel) (by decide +kernel) (by decide +kernel) (by decide) ?_
      exact lc_14 hC hX hbl hbA hL i hiL kn ch tl cur tx ti np nq nd pu P dti dnp dnq dnd dpu dP c g u cnt f na fd fu kf pl rt rp rq rd rw rx tm tf sm sf f7 f8 f9 g6 bk mk ik gn vv hl htx hna hW hGo hRi hKe kk
    by_cases k15 : sw = nI 15
    · refine g_top (y := nI 15) k15 ?_
      refine g_tableIn (off := 477) hC 509 dL_law_32 (by decide +kernel) (by decide +kernel) (by decide +kernel) (by decide) ?_
      exact lc_15 hC hX hbl hbA hL i hiL kn ch tl cur tx ti np nq nd pu P dti dnp dnq dnd dpu dP c g u cnt f na fd fu kf pl rt rp rq rd rw rx tm tf sm sf f7 f8 f9 g6 bk mk ik gn vv hl htx hna hW hGo hRi hKe kk
    by_cases k16 : sw = nI 16
    · refine g_top (y := nI 16) k16 ?_
      refine g_tableIn (off := 510) hC 542 dL_law_32 (by decide +kernel) (by decide +kernel) (by decide +kernel) (by decide) ?_
      exact lc_16 hC hX hbl hbA hL i hiL kn ch tl cur tx ti np nq nd pu P dti dnp dnq dnd dpu dP c g u cnt f na fd fu kf pl rt rp rq rd rw rx tm tf sm sf f7 f8 f9 g6 bk mk ik gn vv hl htx hna hW hGo hRi hKe kk
    by_cases k17 : sw = nI 17
    · refine g_top (y := nI 17) k17 ?_
      refine g_tableIn (off := 553) hC 585 dL_law_32 (by decide +kernel) (by decide +kernel) (by decide +kernel) (by decide) ?_
      exact lc_17 hC hX hbl hbA hL i hiL kn ch tl cur tx ti np nq nd pu P dti dnp dnq dnd dpu dP c g u cnt f na fd fu kf pl rt rp rq rd rw rx tm tf sm sf f7 f8 f9 g6 bk mk ik gn vv hl htx hna hW hGo hRi hKe kk
    by_cases k18 : sw = nI 18
    · refine g_top (y := nI 18) k18 ?_
      refine g_tableIn (off := 576) hC 608 dL_law_32 (by decide +kernel) (by decide +kernel) (by decide +kernel) (by decide) ?_
      exact lc_18 hC hX hbl hbA hL i hiL kn ch tl cur tx ti np nq nd pu P dti dnp dnq dnd dpu dP c g u cnt f na fd fu kf pl rt rp rq rd rw rx tm tf sm sf f7 f8 f9 g6 bk mk ik gn vv hl htx hna hW hGo hRi hKe kk
    by_cases k19 : sw = nI 19
    · refine g_top (y := nI 19) k19 ?_
      refine g_tableIn (off := 639) hC 671 dL_law_32 (by decide +kernel) (by decide +kernel) (by decide +kernel) (by decide) ?_
      exact lc_19 hC hX hbl hbA hL i hiL kn ch tl cur tx ti np nq nd pu P dti dnp dnq dnd dpu dP c g u cnt f na fd fu kf pl rt rp rq rd rw rx tm tf sm sf f7 f8 f9 g6 bk mk ik gn vv hl htx hna hW hGo hRi hKe kk
    by_cases k20 : sw = nI 20
    · refine g_top (y := nI 20) k20 ?_
      refine g_tableIn (off := 688) hC 720 dL_law_32 (by decide +kernel) (by decide +kernel) (by decide +kernel) (by decide) ?_
      exact lc_20 hC hX hbl hbA hL i hiL kn ch tl cur tx ti np nq nd pu P dti dnp dnq dnd dpu dP c g u cnt f na fd fu kf pl rt rp rq rd rw rx tm tf sm sf f7 f8 f9 g6 bk mk ik gn vv hl htx hna hW hGo hRi hKe kk
    by_cases k21 : sw = nI 21
    · refine g_top (y := nI 21) k21 ?_
      refine g_tableIn (off := 721) hC 753 dL_law_32 (by decide +kernel) (by decide +kernel) (by decide +kernel) (by decide) ?_
      exact lc_21 hC hX hbl hbA hL i hiL kn ch tl cur tx ti np nq nd pu P dti dnp dnq dnd dpu dP c g u cnt f na fd fu kf pl rt rp rq rd rw rx tm tf sm sf f7 f8 f9 g6 bk mk ik gn vv hl htx hna hW hGo hRi hKe kk
    by_cases k22 : sw = nI 22
    · refine g_top (y := nI 22) k22 ?_
      refine g_tableIn (off := 734) hC 766 dL_law_32 (by decide +kernel) (by decide +kernel) (by decide +kernel) (by decide) ?_
      exact lc_22 hC hX hbl hbA hL i hiL kn ch tl cur tx ti np nq nd pu P dti dnp dnq dnd dpu dP c g u cnt f na fd fu kf pl rt rp rq rd rw rx tm tf sm sf f7 f8 f9 g6 bk mk ik gn vv hl htx hna hW hGo hRi hKe kk
    by_cases k23 : sw = nI 23
    · refine g_top (y := nI 23) k23 ?_
      refine g_tableIn (off := 757) hC 789 dL_law_32 (by decide +kernel) (by decide +kernel) (by decide +kernel) (by decide) ?_
      exact lc_23 hC hX hbl hbA hL i hiL kn ch tl cur tx ti np nq nd pu P dti dnp dnq dnd dpu dP c g u cnt f na fd fu kf pl rt rp rq rd rw rx tm tf sm sf f7 f8 f9 g6 bk mk ik gn vv hl htx hna hW hGo hRi hKe kk
    by_cases k24 : sw = nI 24
    · refine g_top (y := nI 24) k24 ?_
      refine g_tableIn (off := 800) hC 832 dL_law_32 (by decide +kernel) (by decide +kernel) (by decide +kernel) (by decide) ?_
      exact lc_24 hC hX hbl hbA hL i hiL kn ch tl cur tx ti np nq nd pu P dti dnp dnq dnd dpu dP c g u cnt f na fd fu kf pl rt rp rq rd rw rx tm tf sm sf f7 f8 f9 g6 bk mk ik gn vv hl htx hna hW hGo hRi hKe kk
    by_cases k25 : sw = nI 25
    · refine g_top (y := nI 25) k25 ?_
      refine g_tableIn (off := 859) hC 891 dL_law_32 (by decide +kernel) (by decide +kernel) (by decide +kernel) (by decide) ?_
      exact lc_25 hC hX hbl hbA hL i hiL kn ch tl cur tx ti np nq nd pu P dti dnp dnq dnd dpu dP c g u cnt f na fd fu kf pl rt rp rq rd rw rx tm tf sm sf f7 f8 f9 g6 bk mk ik gn vv hl htx hna hW hGo hRi hKe kk
    by_cases k26 : sw = nI 26
    · refine g_top (y := nI 26) k26 ?_
      refine g_tableIn (off := 913) hC 945 dL_law_32 (by decide +kernel) (by decide +kernel) (by decide +kernel) (by decide) ?_
      exact lc_26 hC hX hbl hbA hL i hiL kn ch tl cur tx ti np nq nd pu P dti dnp dnq dnd dpu dP c g u cnt f na fd fu kf pl rt rp rq rd rw rx tm tf sm sf f7 f8 f9 g6 bk mk ik gn vv hl htx hna hW hGo hRi hKe kk
    by_cases k27 : sw = nI 27
    · refine g_top (y := nI 27) k27 ?_
      refine g_tableIn (off := 936) hC 968 dL_law_32 (by decide +kernel) (by decide +kernel) (by decide +kernel) (by decide) ?_
      exact lc_27 hC hX hbl hbA hL i hiL kn ch tl cur tx ti np nq nd pu P dti dnp dnq dnd dpu dP c g u cnt f na fd fu kf pl rt rp rq rd rw rx tm tf sm sf f7 f8 f9 g6 bk mk ik gn vv hl htx hna hW hGo hRi hKe kk
    by_cases k28 : sw = nI 28
    · refine g_top (y := nI 28) k28 ?_
      refine g_tableIn (off := 959) hC 991 dL_law_32 (by decide +kernel) (by decide +kernel) (by decide +kernel) (by decide) ?_
      exact lc_28 hC hX hbl hbA hL i hiL kn ch tl cur tx ti np nq nd pu P dti dnp dnq dnd dpu dP c g u cnt f na fd fu kf pl rt rp rq rd rw rx tm tf sm sf f7 f8 f9 g6 bk mk ik gn vv hl htx hna hW hGo hRi hKe kk
    have z0 : sw.toInt ≠ 0 := fun q => k0 (Int32.toInt_inj.mp (q.trans (by decide +kernel)))
    have z1 : sw.toInt ≠ 1 := fun q => k1 (Int32.toInt_inj.mp (q.trans (by decide +kernel)))
    have z2 : sw.toInt ≠ 2 := fun q => k2 (Int32.toInt_inj.mp (q.trans (by decide +kernel)))
    have z3 : sw.toInt ≠ 3 := fun q => k3 (Int32.toInt_inj.mp (q.trans (by decide +kernel)))
    have z4 : sw.toInt ≠ 4 := fun q => k4 (Int32.toInt_inj.mp (q.trans (by decide +kernel)))
    have z5 : sw.toInt ≠ 5 := fun q => k5 (Int32.toInt_inj.mp (q.trans (by decide +kernel)))
    have z6 : sw.toInt ≠ 6 := fun q => k6 (Int32.toInt_inj.mp (q.trans (by decide +kernel)))
    have z7 : sw.toInt ≠ 7 := fun q => k7 (Int32.toInt_inj.mp (q.trans (by decide +kernel)))
    have z8 : sw.toInt ≠ 8 := fun q => k8 (Int32.toInt_inj.mp (q.trans (by decide +kernel)))
    have z9 : sw.toInt ≠ 9 := fun q => k9 (Int32.toInt_inj.mp (q.trans (by decide +kernel)))
    have z10 : sw.toInt ≠ 10 := fun q => k10 (Int32.toInt_inj.mp (q.trans (by decide +kernel)))
    have z11 : sw.toInt ≠ 11 := fun q => k11 (Int32.toInt_inj.mp (q.trans (by decide +kernel)))
    have z12 : sw.toInt ≠ 12 := fun q => k12 (Int32.toInt_inj.mp (q.trans (by decide +kernel)))
    have z13 : sw.toInt ≠ 13 := fun q => k13 (Int32.toInt_inj.mp (q.trans (by decide +kernel)))
    have z14 : sw.toInt ≠ 14 := fun q => k14 (Int32.toInt_inj.mp (q.trans (by decide +kernel)))
    have z15 : sw.toInt ≠ 15 := fun q => k15 (Int32.toInt_inj.mp (q.trans (by decide +kernel)))
    have z16 : sw.toInt ≠ 16 := fun q => k16 (Int32.toInt_inj.mp (q.trans (by decide +kernel)))
    have z17 : sw.toInt ≠ 17 := fun q => k17 (Int32.toInt_inj.mp (q.trans (by decide +kernel)))
    have z18 : sw.toInt ≠ 18 := fun q => k18 (Int32.toInt_inj.mp (q.trans (by decide +kernel)))
    have z19 : sw.toInt ≠ 19 := fun q => k19 (Int32.toInt_inj.mp (q.trans (by decide +kernel)))
    have z20 : sw.toInt ≠ 20 := fun q => k20 (Int32.toInt_inj.mp (q.trans (by decide +kernel)))
    have z21 : sw.toInt ≠ 21 := fun q => k21 (Int32.toInt_inj.mp (q.trans (by decide +kernel)))
    have z22 : sw.toInt ≠ 22 := fun q => k22 (Int32.toInt_inj.mp (q.trans (by decide +kernel)))
    have z23 : sw.toInt ≠ 23 := fun q => k23 (Int32.toInt_inj.mp (q.trans (by decide +kernel)))
    have z24 : sw.toInt ≠ 24 := fun q => k24 (Int32.toInt_inj.mp (q.trans (by decide +kernel)))
    have z25 : sw.toInt ≠ 25 := fun q => k25 (Int32.toInt_inj.mp (q.trans (by decide +kernel)))
    have z26 : sw.toInt ≠ 26 := fun q => k26 (Int32.toInt_inj.mp (q.trans (by decide +kernel)))
    have z27 : sw.toInt ≠ 27 := fun q => k27 (Int32.toInt_inj.mp (q.trans (by decide +kernel)))
    have z28 : sw.toInt ≠ 28 := fun q => k28 (Int32.toInt_inj.mp (q.trans (by decide +kernel)))
    refine g_tableOut hC 1014 dL_law_32 (by omega) (by decide) ?_
    exact kk kn ch tl cur tx ti np nq nd pu P dti dnp dnq dnd dpu dP c g u cnt f na fd fu kf pl rt rp rq rd rw rx tm tf sm sf f7 f8 f9 g6 bk mk ik gn vv hl htx hna hW (hGo.up (Nat.le_succ i)) (hRi.up (Nat.le_succ i)) (hKe.up (Nat.le_succ i))
