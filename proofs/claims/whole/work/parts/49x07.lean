set_option maxRecDepth 100000 in
set_option maxHeartbeats 4000000 in
theorem lc_7 {p : Program} {l : Launch} {e : Env} {s : State} {m : MethodId} {args : Array Value} {below : List Frame} {meth : Method} {cd : Code} {D : va_G} {cI cZ : ClassId} {A : Nat → Prop} {Q : State → Prop} (hC : gCx p s m args meth cd D cI cZ A cL_law 4 wsL_law RL) {b : Nat} {xo : Nat} {xt : Nat} {xp : Nat} {xd : Nat} {xn : Nat} {xa : Nat} {xc : Nat} {xs : Nat} {xk : Nat} {xtb : Nat} {r : Nat → Nat} {dr : Nat → Nat} {xnc : Nat} {xgc : Nat} {xcb : Nat} {xsd : Nat} {xsu : Nat} {mo : Nat} {rm : Nat → Nat} {L : Nat} {sc : Nat → Int32} (hX : va_X b L sc s s.heap) (hbl : b < s.heap.size) (hbA : ¬ A b) (hL : L ≤ 256) (i : Nat) (hiL : 4 * i + 4 ≤ L) (kn : Nat) (ch : Int64) (tl : Nat) (cur : Nat) (tx : Nat → Nat) (ti : Int32) (np : Nat) (nq : Nat) (nd : Nat) (pu : Nat → Nat) (P : Nat → Nat → Nat) (dti : Int32) (dnp : Nat) (dnq : Nat) (dnd : Nat) (dpu : Nat → Nat) (dP : Nat → Nat → Nat) (c : Nat → Int32) (g : Nat → Int32) (u : Nat) (cnt : Nat) (f : Nat → Int32) (na : Nat) (fd : Nat → Int32) (fu : Nat → Int32) (kf : Nat → Int32) (pl : Int32) (rt : Int32) (rp : Int32) (rq : Int32) (rd : Int32) (rw : Int32) (rx : Int32) (tm : Int32) (tf : Int32) (sm : Int32) (sf : Int32) (f7 : Nat → Int32) (f8 : Nat → Int32) (f9 : Nat → Int32) (g6 : Nat → Int32) (bk : Nat → Int32) (mk : Nat → Int32) (ik : Nat → Int32) (gn : Nat → Int32) (vv : Nat → Int32) (hl : tl ≤ 48) (htx : ∀ k, tx k < 256) (hna : na ≤ 6) (hW : WFP np nq nd P) (hGo : Good P nq nd i c) (hRi : Ring P nq nd i f u cnt bk) (hKe : Kep P nq nd i kf kn mk ik) (kk : LK p l e s m args below meth cd D cI cZ A Q b xo xt xp xd xn xa xc xs xk xtb r dr xnc xgc xcb xsd xsu mo rm i) : G p l e room_1 s m args below meth cd D A 49 1094 Q 4 (lwW cI cZ xo xt xp xd xn xa xc xs xk xtb r dr xnc xgc xcb xsd xsu mo rm kn ch tl cur tx ti np nq nd pu P dti dnp dnq dnd dpu dP c g u cnt f na fd fu kf pl rt rp rq rd rw rx tm tf sm sf f7 f8 f9 g6 bk mk ik gn vv) 315 [(0, .ref b), (1, .ref xo), (2, .ref mo), (3, .int (nI (4 * i)))] [] := by
  refine g_ws (ws2 := [(xo, o5 xt xp xd xn xa xc xs xk (nI kn) ch), (xt, .inr (4, [.ref xtb, .int (nI tl), .int (nI cur)])), (xtb, .inl (cI, 48, .inl (fun k_ => nI (tx k_)))), (xp, o2 r ti np nq nd), (r 0, .inl (cI, 3, .inl (fun k_ => nI (pu k_)))), (r 1, .inl (cI, 5, .inl (fun k_ => nI (P 0 k_)))), (r 2, .inl (cI, 5, .inl (fun k_ => nI (P 1 k_)))), (r 3, .inl (cI, 5, .inl (fun k_ => nI (P 2 k_)))), (r 4, .inl (cI, 5, .inl (fun k_ => nI (P 3 k_)))), (r 5, .inl (cI, 5, .inl (fun k_ => nI (P 4 k_)))), (r 6, .inl (cI, 5, .inl (fun k_ => nI (P 5 k_)))), (xd, o2 dr dti dnp dnq dnd), (dr 0, .inl (cI, 3, .inl (fun k_ => nI (dpu k_)))), (dr 1, .inl (cI, 5, .inl (fun k_ => nI (dP 0 k_)))), (dr 2, .inl (cI, 5, .inl (fun k_ => nI (dP 1 k_)))), (dr 3, .inl (cI, 5, .inl (fun k_ => nI (dP 2 k_)))), (dr 4, .inl (cI, 5, .inl (fun k_ => nI (dP 3 k_)))), (dr 5, .inl (cI, 5, .inl (fun k_ => nI (dP 4 k_)))), (dr 6, .inl (cI, 5, .inl (fun k_ => nI (dP 5 k_)))), (xn, .inr (3, [.ref xp, .ref xnc])), (xnc, .inl (cI, 20, .inl c)), (xa, .inr (3, [.ref xp, .ref xgc])), (xgc, .inl (cI, 20, .inl g)), (xc, .inr (0, [.ref xcb, .int (nI u), .int (nI cnt)])), (xcb, .inl (cI, 280, .inl f)), (xs, .inr (1, [.ref xsd, .ref xsu, .int (nI na)])), (xsd, .inl (cI, 6, .inl fd)), (xsu, .inl (cI, 6, .inl fu)), (xk, .inl (cI, 40, .inl kf)), (mo, o6 rm (nI tl) pl (nI np) (nI nq) (nI nd) rt rp rq rd (nI cnt) (nI na) ch rw rx tm tf sm sf), (rm 0, .inl (cI, 48, .inl (fun k_ => nI (tx k_)))), (rm 1, .inl (cI, 5, .inl (fun k_ => nI (P 0 k_)))), (rm 2, .inl (cI, 5, .inl (fun k_ => nI (P 1 k_)))), (rm 3, .inl (cI, 5, .inl (fun k_ => nI (P 2 k_)))), (rm 4, .inl (cI, 5, .inl (fun k_ => nI (P 3 k_)))), (rm 5, .inl (cI, 5, .inl (fun k_ => nI (P 4 k_)))), (rm 6, .inl (cI, 5, .inl (fun k_ => nI (P 5 k_)))), (rm 7, .inl (cI, 3, .inl f7)), (rm 8, .inl (cI, 15, .inl f8)), (rm 9, .inl (cI, 15, .inl f9)), (rm 10, .inl (cI, 20, .inl (mp c))), (rm 11, .inl (cI, 20, .inl (mp g6))), (rm 12, .inl (cI, 280, .inl bk)), (rm 13, .inl (cI, 40, .inl mk)), (rm 14, .inl (cZ, 2, .inl ik)), (rm 15, .inl (cI, 6, .inl fd)), (rm 16, .inl (cI, 6, .inl fu)), (rm 17, .inl (cI, 8, .inl gn)), (rm 18, .inl (cI, 32, .inl vv))]) rfl ?_
  obtain ⟨⟨hnp, hnq, hnd⟩, hq4, hd5⟩ := id hW
  obtain ⟨t, htN, hFr⟩ := hGo.fr
  obtain ⟨T, hTN, hT⟩ := hGo.till
  have hu := hRi.1
  have hcnt := hRi.2.1
  have hkn := hKe.1
  refine g_aload_n hC 1 dL_law_315 rfl rfl ?_
  refine g_aload_n hC 0 dL_law_316 rfl rfl ?_
  refine g_iload_n hC 3 dL_law_317 rfl rfl ?_
  refine g_iconst (v := nI 1) hC dL_law_318 rfl ?_
  refine g_iadd_n (a := (4 * i)) (b := 1) hC dL_law_319 ?_
  refine g_sld hC hX hbl hbA (4 * i + 1) rfl (by omega) (by omega) dL_law_320 ?_
  refine g_aload_n hC 0 dL_law_321 rfl rfl ?_
  refine g_iload_n hC 3 dL_law_322 rfl rfl ?_
  refine g_iconst (v := nI 2) hC dL_law_323 rfl ?_
  refine g_iadd_n (a := (4 * i)) (b := 2) hC dL_law_324 ?_
  refine g_sld hC hX hbl hbA (4 * i + 2) rfl (by omega) (by omega) dL_law_325 ?_
  refine g_callVip (As := [.int (sc (4 * i + 1)), .int (sc (4 * i + 2))]) (rest := []) hC (deedR nd P c (sc (4 * i + 1)) (sc (4 * i + 2))) (c_X5_deed l D cI cZ xo xt xp xd xn xa xc xs xk (nI kn) ch xnc c r ti np nq nd P (sc (4 * i + 1)) (sc (4 * i + 2)) (by first | assumption | omega)) (cwV 2 hC.1.2.2.2.2 gL_law_X5_deed rfl rfl rfl dV_X5_deed ⟨Nat.le_of_ble_eq_true rfl, Nat.le_of_ble_eq_true rfl⟩) rfl rfl rfl rfl (Nat.le_of_ble_eq_true rfl) dL_law_326 ⟨Nat.le_of_ble_eq_true rfl, Nat.le_of_ble_eq_true rfl⟩ [0, 19, 20, 3, 5, 6, 7, 8, 9, 10] rfl rfl ?_
  refine g_aload_n hC 2 dL_law_329 rfl rfl ?_
  refine g_aload_n hC 0 dL_law_330 rfl rfl ?_
  refine g_iload_n hC 3 dL_law_331 rfl rfl ?_
  refine g_iconst (v := nI 1) hC dL_law_332 rfl ?_
  refine g_iadd_n (a := (4 * i)) (b := 1) hC dL_law_333 ?_
  refine g_sld hC hX hbl hbA (4 * i + 1) rfl (by omega) (by omega) dL_law_334 ?_
  refine g_aload_n hC 0 dL_law_335 rfl rfl ?_
  refine g_iload_n hC 3 dL_law_336 rfl rfl ?_
  refine g_iconst (v := nI 2) hC dL_law_337 rfl ?_
  refine g_iadd_n (a := (4 * i)) (b := 2) hC dL_law_338 ?_
  refine g_sld hC hX hbl hbA (4 * i + 2) rfl (by omega) (by omega) dL_law_339 ?_
  refine g_callVip (As := [.int (sc (4 * i + 1)), .int (sc (4 * i + 2))]) (rest := [.int (deedR nd P c (sc (4 * i + 1)) (sc (4 * i + 2)))]) hC (deedR nd P c (sc (4 * i + 1)) (sc (4 * i + 2))) (c_X6_deed l D cI cZ mo rm tl pl np nq nd rt rp rq rd cnt na ch rw rx tm tf sm sf P c (sc (4 * i + 1)) (sc (4 * i + 2)) (by first | assumption | omega)) (cwV 2 hC.1.2.2.2.2 gL_law_X6_deed rfl rfl rfl dV_X6_deed ⟨Nat.le_of_ble_eq_true rfl, Nat.le_of_ble_eq_true rfl⟩) rfl rfl rfl rfl (Nat.le_of_ble_eq_true rfl) dL_law_340 ⟨Nat.le_of_ble_eq_true rfl, Nat.le_of_ble_eq_true rfl⟩ [29, 34, 35, 36, 40] rfl rfl ?_
  refine g_icmp_eq hC 1014 dL_law_343 (by decide) (fun h343t => ?_) (fun h343f => ?_)
  · refine kk kn ch tl cur tx ti np nq nd pu P dti dnp dnq dnd dpu dP c g u cnt f na fd fu kf pl rt rp rq rd rw rx tm tf sm sf f7 f8 f9 g6 bk mk ik gn vv ?_ ?_ ?_ ?_ ?_ ?_ ?_
    · exact hl
    · exact htx
    · exact hna
    · exact hW
    · exact hGo.up (Nat.le_succ i)
    · exact hRi.up (Nat.le_succ i)
    · exact hKe.up (Nat.le_succ i)
  exact absurd (rfl) h343f
