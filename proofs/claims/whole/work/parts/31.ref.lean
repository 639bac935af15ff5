abbrev rm_X6_goDay : Room := { frames := 0, cells := 0, slots := 0, locals := 0 }
set_option maxRecDepth 100000 in
set_option maxHeartbeats 8000000 in
theorem c_X6_goDay (l : Launch) (D : va_G) (cI cZ : ClassId) (mo : Nat) (rm : Nat → Nat) (tl : Nat) (pl : Int32) (np : Nat) (nq : Nat) (nd : Nat) (rt : Int32) (rp : Int32) (rq : Int32) (rd : Int32) (cnt : Nat) (na : Nat) (sd : Int64) (rw : Int32) (rx : Int32) (tm : Int32) (tf : Int32) (sm : Int32) (sf : Int32) (P : Nat → Nat → Nat) (pa : Nat) (c : Nat → Int32) (hW : WFP np nq nd P) (hF : Fresh P nd c) : CtI l yX6_goDay wsX6_goDay rm_X6_goDay D cI cZ [.ref mo, .ref pa] [(mo, o6 rm (nI tl) pl (nI np) (nI nq) (nI nd) rt rp rq rd (nI cnt) (nI na) sd rw rx tm tf sm sf), (rm 1, .inl (cI, 5, .inl (fun k_ => nI (P 0 k_)))), (rm 3, .inl (cI, 5, .inl (fun k_ => nI (P 2 k_)))), (rm 4, .inl (cI, 5, .inl (fun k_ => nI (P 3 k_)))), (rm 5, .inl (cI, 5, .inl (fun k_ => nI (P 4 k_)))), (rm 6, .inl (cI, 5, .inl (fun k_ => nI (P 5 k_)))), (pa, .inl (cI, 20, .inl (mp c)))] (fun r (_ : Unit) => r = nI (cntD P c nd)) (fun (_ : Unit) => [(mo, o6 rm (nI tl) pl (nI np) (nI nq) (nI nd) rt rp rq rd (nI cnt) (nI na) sd rw rx tm tf sm sf), (rm 1, .inl (cI, 5, .inl (fun k_ => nI (P 0 k_)))), (rm 3, .inl (cI, 5, .inl (fun k_ => nI (P 2 k_)))), (rm 4, .inl (cI, 5, .inl (fun k_ => nI (P 3 k_)))), (rm 5, .inl (cI, 5, .inl (fun k_ => nI (P 4 k_)))), (rm 6, .inl (cI, 5, .inl (fun k_ => nI (P 5 k_)))), (pa, .inl (cI, 20, .inl (mp (passF P nq nd c))))]) 0 0 := by
  refine g_startI (ret := (some .int)) (own := RX6) (lv0 := [(0, .ref mo), (1, .ref pa)]) (by decide) rfl rfl (Nat.le_of_ble_eq_true rfl) rfl ?_
  intro p e s m args below meth cd A Q hin hr hQ hC
  have hcw6 : ∀ w ∈ wsX60, w ∈ wsX6_goDay := fun _ h => List.mem_cons_of_mem _ (List.mem_append_right _ h)
  have w1 := hC.1.2.2.2.2 (.fieldLink "PluckBrokerModel" 82 "PluckBrokerModel" "deeds" "I") (List.mem_of_getElem? (i := 1) rfl)
  have w2 := hC.1.2.2.2.2 (.fieldLink "PluckBrokerModel" 25 "PluckBrokerModel" "when" "[I") (List.mem_of_getElem? (i := 2) rfl)
  have w3 := hC.1.2.2.2.2 (.fieldLink "PluckBrokerModel" 22 "PluckBrokerModel" "wants" "[I") (List.mem_of_getElem? (i := 3) rfl)
  have w4 := hC.1.2.2.2.2 (.fieldLink "PluckBrokerModel" 13 "PluckBrokerModel" "owner" "[I") (List.mem_of_getElem? (i := 4) rfl)
  have w5 := hC.1.2.2.2.2 (.fieldLink "PluckBrokerModel" 28 "PluckBrokerModel" "pays" "[I") (List.mem_of_getElem? (i := 5) rfl)
  have w6 := hC.1.2.2.2.2 (.fieldLink "PluckBrokerModel" 79 "PluckBrokerModel" "qualities" "I") (List.mem_of_getElem? (i := 6) rfl)
  have w7 := hC.1.2.2.2.2 (.fieldLink "PluckBrokerModel" 19 "PluckBrokerModel" "kind" "[I") (List.mem_of_getElem? (i := 7) rfl)
  obtain ⟨⟨hnp, hnq, hnd⟩, hq4, hd5⟩ := id hW
  refine g_iconst (v := nI 0) hC dX6_goDay_0 rfl ?_
  refine g_istore_n (lv' := [(0, .ref mo), (1, .ref pa), (2, .int (nI 0))]) hC [1, 2, 0] dX6_goDay_1 rfl (by decide) rfl ?_
  refine g_iconst (v := nI 0) hC dX6_goDay_2 rfl ?_
  refine g_istore_n (lv' := [(0, .ref mo), (1, .ref pa), (2, .int (nI 0)), (3, .int (nI 0))]) hC [1, 2, 3, 0] dX6_goDay_3 rfl (by decide) rfl ?_
  have L4 : ∀ (n : Nat) (i : Nat) (x : Nat) (g : Nat → Int32), (i ≤ nd) → (x = cntD P c i) → (g = dayD P c i) → nd - i < n → G p l e rm_X6_goDay s m args below meth cd D A 0 0 Q 5 [(mo, o6 rm (nI tl) pl (nI np) (nI nq) (nI nd) rt rp rq rd (nI cnt) (nI na) sd rw rx tm tf sm sf), (rm 1, .inl (cI, 5, .inl (fun k_ => nI (P 0 k_)))), (rm 3, .inl (cI, 5, .inl (fun k_ => nI (P 2 k_)))), (rm 4, .inl (cI, 5, .inl (fun k_ => nI (P 3 k_)))), (rm 5, .inl (cI, 5, .inl (fun k_ => nI (P 4 k_)))), (rm 6, .inl (cI, 5, .inl (fun k_ => nI (P 5 k_)))), (pa, .inl (cI, 20, .inl (mp g)))] 4 [(0, .ref mo), (1, .ref pa), (2, .int (nI x)), (3, .int (nI i))] [] := by
    intro n
    induction n with
    | zero => intro i x g hi hx hg hn; exact absurd hn (Nat.not_lt_zero _)
    | succ n ih4 =>
      intro i x g hi hx hg hn
      refine g_iload_n hC 3 dX6_goDay_4 rfl rfl ?_
      refine g_aload_n hC 0 dX6_goDay_5 rfl rfl ?_
      refine g_get (C := RX6) (T := TX6) (N := 38) (ci := 6) (v := .int (nI nd)) hC hcw6 0 rfl rfl 9 (by decide) w1 (fun _ h => h) rfl dX6_goDay_6 ?_
      refine g_icmp_ge_n (a := i) (b := nd) hC (by omega) (by omega) 122 dX6_goDay_9 (by decide) (fun h9t => ?_) (fun h9f => ?_)
      · refine g_aload_n hC 1 dX6_goDay_122 rfl rfl ?_
        refine g_bipush (v := nI 19) hC dX6_goDay_123 (by decide +kernel) ?_
        refine g_dup2 hC dX6_goDay_125 rfl rfl ?_
        refine g_iald hC 6 rfl 19 rfl (by omega) (by decide) dX6_goDay_126 ?_
        refine g_top (y := g 1) (mp_19 _) ?_
        refine g_iconst (v := nI 1) hC dX6_goDay_127 rfl ?_
        refine g_iadd hC dX6_goDay_128 ?_
        refine g_iast hC 6 rfl 19 rfl (by omega) (by decide) [(mo, o6 rm (nI tl) pl (nI np) (nI nq) (nI nd) rt rp rq rd (nI cnt) (nI na) sd rw rx tm tf sm sf), (rm 1, .inl (cI, 5, .inl (fun k_ => nI (P 0 k_)))), (rm 3, .inl (cI, 5, .inl (fun k_ => nI (P 2 k_)))), (rm 4, .inl (cI, 5, .inl (fun k_ => nI (P 3 k_)))), (rm 5, .inl (cI, 5, .inl (fun k_ => nI (P 4 k_)))), (rm 6, .inl (cI, 5, .inl (fun k_ => nI (P 5 k_)))), (pa, .inl (cI, 20, .inl (upd (mp g) 19 ((g 1) + (nI 1)))))] rfl dX6_goDay_129 ?_
        refine g_ws (ws2 := [(mo, o6 rm (nI tl) pl (nI np) (nI nq) (nI nd) rt rp rq rd (nI cnt) (nI na) sd rw rx tm tf sm sf), (rm 1, .inl (cI, 5, .inl (fun k_ => nI (P 0 k_)))), (rm 3, .inl (cI, 5, .inl (fun k_ => nI (P 2 k_)))), (rm 4, .inl (cI, 5, .inl (fun k_ => nI (P 3 k_)))), (rm 5, .inl (cI, 5, .inl (fun k_ => nI (P 4 k_)))), (rm 6, .inl (cI, 5, .inl (fun k_ => nI (P 5 k_)))), (pa, .inl (cI, 20, .inl (mp (upd g 1 ((g 1) + (nI 1))))))]) (congrArg (fun zz : Nat → Int32 => ([(mo, o6 rm (nI tl) pl (nI np) (nI nq) (nI nd) rt rp rq rd (nI cnt) (nI na) sd rw rx tm tf sm sf), (rm 1, .inl (cI, 5, .inl (fun k_ => nI (P 0 k_)))), (rm 3, .inl (cI, 5, .inl (fun k_ => nI (P 2 k_)))), (rm 4, .inl (cI, 5, .inl (fun k_ => nI (P 3 k_)))), (rm 5, .inl (cI, 5, .inl (fun k_ => nI (P 4 k_)))), (rm 6, .inl (cI, 5, .inl (fun k_ => nI (P 5 k_)))), (pa, .inl (cI, 20, .inl zz))] : va_W)) (mpu_19 _ _)) ?_
        have ed : i = nd := by omega
        rw [ed] at hg hx
        obtain ⟨cB, hcB⟩ : ∃ cB, cB = upd g 1 (g 1 + nI 1) := ⟨_, rfl⟩
        refine g_iconst (v := nI 0) hC dX6_goDay_130 rfl ?_
        refine g_istore_n (lv' := [(0, .ref mo), (1, .ref pa), (2, .int (nI x)), (3, .int (nI 0))]) hC [1, 2, 3, 0] dX6_goDay_131 rfl (by decide) rfl ?_
        have L132 : ∀ (n : Nat) (i : Nat) (g2 : Nat → Int32), (i ≤ nq) → (g2 = sellD P cB i) → nq - i < n → G p l e rm_X6_goDay s m args below meth cd D A 0 0 Q 5 [(mo, o6 rm (nI tl) pl (nI np) (nI nq) (nI nd) rt rp rq rd (nI cnt) (nI na) sd rw rx tm tf sm sf), (rm 1, .inl (cI, 5, .inl (fun k_ => nI (P 0 k_)))), (rm 3, .inl (cI, 5, .inl (fun k_ => nI (P 2 k_)))), (rm 4, .inl (cI, 5, .inl (fun k_ => nI (P 3 k_)))), (rm 5, .inl (cI, 5, .inl (fun k_ => nI (P 4 k_)))), (rm 6, .inl (cI, 5, .inl (fun k_ => nI (P 5 k_)))), (pa, .inl (cI, 20, .inl (mp g2)))] 132 [(0, .ref mo), (1, .ref pa), (2, .int (nI x)), (3, .int (nI i))] [] := by
          intro n
          induction n with
          | zero => intro i g2 hi hg2 hn; exact absurd hn (Nat.not_lt_zero _)
          | succ n ih132 =>
            intro i g2 hi hg2 hn
            refine g_iload_n hC 3 dX6_goDay_132 rfl rfl ?_
            refine g_aload_n hC 0 dX6_goDay_133 rfl rfl ?_
            refine g_get (C := RX6) (T := TX6) (N := 38) (ci := 6) (v := .int (nI nq)) hC hcw6 0 rfl rfl 5 (by decide) w6 (fun _ h => h) rfl dX6_goDay_134 ?_
            refine g_icmp_ge_n (a := i) (b := nq) hC (by omega) (by omega) 207 dX6_goDay_137 (by decide) (fun h137t => ?_) (fun h137f => ?_)
            · have eq2 : i = nq := by omega
              rw [eq2] at hg2
              have ecell : (mp g2) = (mp (passF P nq nd c)) := by
                rw [hg2, hcB, passF, ← hg]
                rw [show g 1 = c 1 by rw [hg]; exact dayD_day hW c (by omega) nd (Nat.le_refl _)]
              refine g_ws (ws2 := [(mo, o6 rm (nI tl) pl (nI np) (nI nq) (nI nd) rt rp rq rd (nI cnt) (nI na) sd rw rx tm tf sm sf), (rm 1, .inl (cI, 5, .inl (fun k_ => nI (P 0 k_)))), (rm 3, .inl (cI, 5, .inl (fun k_ => nI (P 2 k_)))), (rm 4, .inl (cI, 5, .inl (fun k_ => nI (P 3 k_)))), (rm 5, .inl (cI, 5, .inl (fun k_ => nI (P 4 k_)))), (rm 6, .inl (cI, 5, .inl (fun k_ => nI (P 5 k_)))), (pa, .inl (cI, 20, .inl (mp (passF P nq nd c))))]) (congrArg (fun zz : Nat → Int32 => ([(mo, o6 rm (nI tl) pl (nI np) (nI nq) (nI nd) rt rp rq rd (nI cnt) (nI na) sd rw rx tm tf sm sf), (rm 1, .inl (cI, 5, .inl (fun k_ => nI (P 0 k_)))), (rm 3, .inl (cI, 5, .inl (fun k_ => nI (P 2 k_)))), (rm 4, .inl (cI, 5, .inl (fun k_ => nI (P 3 k_)))), (rm 5, .inl (cI, 5, .inl (fun k_ => nI (P 4 k_)))), (rm 6, .inl (cI, 5, .inl (fun k_ => nI (P 5 k_)))), (pa, .inl (cI, 20, .inl zz))] : va_W)) ecell) ?_
              refine g_iload_n hC 2 dX6_goDay_207 rfl rfl ?_
              subst hQ
              refine g_iret (v := nI x) hC () hr ?_ rfl dX6_goDay_208
              rw [hx]
            have hk2 := (hq4 i (by omega)).2.2.2
            refine g_aload_n hC 1 dX6_goDay_140 rfl rfl ?_
            refine g_iconst (v := nI 4) hC dX6_goDay_141 rfl ?_
            refine g_iload_n hC 3 dX6_goDay_142 rfl rfl ?_
            refine g_iadd_n (a := 4) (b := i) hC dX6_goDay_143 ?_
            refine g_iald hC 6 rfl (4 + i) rfl (by omega) (by decide) dX6_goDay_144 ?_
            refine g_top (y := g2 (5 + i)) (mp_4 _ (by omega)) ?_
            refine g_iconst (v := nI 1) hC dX6_goDay_145 rfl ?_
            refine g_icmp_ne hC 179 dX6_goDay_146 (by decide) (fun h146t => ?_) (fun h146f => ?_)
            · refine g_iconst (v := nI 0) hC dX6_goDay_179 rfl ?_
              refine g_istore (lv' := [(0, .ref mo), (1, .ref pa), (2, .int (nI x)), (3, .int (nI i)), (4, .int (nI 0))]) hC [1, 2, 3, 4, 0] dX6_goDay_180 (by decide) rfl ?_
              refine g_aload_n hC 1 dX6_goDay_182 rfl rfl ?_
              refine g_iconst (v := nI 4) hC dX6_goDay_183 rfl ?_
              refine g_iload_n hC 3 dX6_goDay_184 rfl rfl ?_
              refine g_iadd_n (a := 4) (b := i) hC dX6_goDay_185 ?_
              refine g_iload hC 4 dX6_goDay_186 rfl ?_
              refine g_if_eq_n (a := 0) hC (by omega) 195 dX6_goDay_188 (by decide) (fun _ => ?_) (fun q => absurd q (by decide))
              refine g_aload_n hC 1 dX6_goDay_195 rfl rfl ?_
              refine g_iconst (v := nI 4) hC dX6_goDay_196 rfl ?_
              refine g_iload_n hC 3 dX6_goDay_197 rfl rfl ?_
              refine g_iadd_n (a := 4) (b := i) hC dX6_goDay_198 ?_
              refine g_iald hC 6 rfl (4 + i) rfl (by omega) (by decide) dX6_goDay_199 ?_
              refine g_top (y := g2 (5 + i)) (mp_4 _ (by omega)) ?_
              refine g_iast hC 6 rfl (4 + i) rfl (by omega) (by decide) [(mo, o6 rm (nI tl) pl (nI np) (nI nq) (nI nd) rt rp rq rd (nI cnt) (nI na) sd rw rx tm tf sm sf), (rm 1, .inl (cI, 5, .inl (fun k_ => nI (P 0 k_)))), (rm 3, .inl (cI, 5, .inl (fun k_ => nI (P 2 k_)))), (rm 4, .inl (cI, 5, .inl (fun k_ => nI (P 3 k_)))), (rm 5, .inl (cI, 5, .inl (fun k_ => nI (P 4 k_)))), (rm 6, .inl (cI, 5, .inl (fun k_ => nI (P 5 k_)))), (pa, .inl (cI, 20, .inl (upd (mp g2) (4 + i) (g2 (5 + i)))))] rfl dX6_goDay_200 ?_
              refine g_ws (ws2 := [(mo, o6 rm (nI tl) pl (nI np) (nI nq) (nI nd) rt rp rq rd (nI cnt) (nI na) sd rw rx tm tf sm sf), (rm 1, .inl (cI, 5, .inl (fun k_ => nI (P 0 k_)))), (rm 3, .inl (cI, 5, .inl (fun k_ => nI (P 2 k_)))), (rm 4, .inl (cI, 5, .inl (fun k_ => nI (P 3 k_)))), (rm 5, .inl (cI, 5, .inl (fun k_ => nI (P 4 k_)))), (rm 6, .inl (cI, 5, .inl (fun k_ => nI (P 5 k_)))), (pa, .inl (cI, 20, .inl (mp (upd g2 (5 + i) (g2 (5 + i))))))]) (congrArg (fun zz : Nat → Int32 => ([(mo, o6 rm (nI tl) pl (nI np) (nI nq) (nI nd) rt rp rq rd (nI cnt) (nI na) sd rw rx tm tf sm sf), (rm 1, .inl (cI, 5, .inl (fun k_ => nI (P 0 k_)))), (rm 3, .inl (cI, 5, .inl (fun k_ => nI (P 2 k_)))), (rm 4, .inl (cI, 5, .inl (fun k_ => nI (P 3 k_)))), (rm 5, .inl (cI, 5, .inl (fun k_ => nI (P 4 k_)))), (rm 6, .inl (cI, 5, .inl (fun k_ => nI (P 5 k_)))), (pa, .inl (cI, 20, .inl zz))] : va_W)) (mpu_4 _ _ (by omega))) ?_
              refine g_iinc (v := nI (i + 1)) (lv' := [(0, .ref mo), (1, .ref pa), (2, .int (nI x)), (3, .int (nI (i + 1))), (4, .int (nI 0))]) hC 3 [1, 2, 3, 0, 4] dX6_goDay_201 rfl (nI_add _ 1) (by decide) rfl ?_
              refine g_goto hC 132 dX6_goDay_204 (by decide) ?_
              refine g_lv [0, 1, 2, 3] (lv2 := [(0, .ref mo), (1, .ref pa), (2, .int (nI x)), (3, .int (nI (i + 1)))]) rfl ?_
              refine ih132 (i + 1) (upd g2 (5 + i) (g2 (5 + i))) ?_ ?_ ?_
              · omega
              · show _ = (if sellD P cB i (5 + i) = nI 1 ∧ nI 9 ≤ cB 1 - cB (10 + i) ∧ P 2 i ≠ 3 then upd (sellD P cB i) (5 + i) (nI 2) else sellD P cB i)
                have e1 : g2 1 = cB 1 := by rw [hg2]; exact sellD_ne P cB i (by omega)
                have e2 : g2 (10 + i) = cB (10 + i) := by rw [hg2]; exact sellD_ne P cB i (by omega)
                rw [← hg2, ← e1, ← e2]
                rw [if_neg (fun q => h146t q.1), upd_id]
              · omega
            refine g_aload_n hC 0 dX6_goDay_149 rfl rfl ?_
            refine g_get (C := RX6) (T := TX6) (N := 38) (ci := 6) (v := .ref (rm 3)) hC hcw6 0 rfl rfl 8 (by decide) w7 (fun _ h => h) rfl dX6_goDay_150 ?_
            refine g_iload_n hC 3 dX6_goDay_153 rfl rfl ?_
            refine g_iald hC 2 rfl i rfl (by omega) (by decide) dX6_goDay_154 ?_
            refine g_iconst (v := nI 3) hC dX6_goDay_155 rfl ?_
            refine g_icmp_eq_n (a := (P 2 i)) (b := 3) hC (by omega) (by omega) 179 dX6_goDay_156 (by decide) (fun h156t => ?_) (fun h156f => ?_)
            · refine g_iconst (v := nI 0) hC dX6_goDay_179 rfl ?_
              refine g_istore (lv' := [(0, .ref mo), (1, .ref pa), (2, .int (nI x)), (3, .int (nI i)), (4, .int (nI 0))]) hC [1, 2, 3, 4, 0] dX6_goDay_180 (by decide) rfl ?_
              refine g_aload_n hC 1 dX6_goDay_182 rfl rfl ?_
              refine g_iconst (v := nI 4) hC dX6_goDay_183 rfl ?_
              refine g_iload_n hC 3 dX6_goDay_184 rfl rfl ?_
              refine g_iadd_n (a := 4) (b := i) hC dX6_goDay_185 ?_
              refine g_iload hC 4 dX6_goDay_186 rfl ?_
              refine g_if_eq_n (a := 0) hC (by omega) 195 dX6_goDay_188 (by decide) (fun _ => ?_) (fun q => absurd q (by decide))
              refine g_aload_n hC 1 dX6_goDay_195 rfl rfl ?_
              refine g_iconst (v := nI 4) hC dX6_goDay_196 rfl ?_
              refine g_iload_n hC 3 dX6_goDay_197 rfl rfl ?_
              refine g_iadd_n (a := 4) (b := i) hC dX6_goDay_198 ?_
              refine g_iald hC 6 rfl (4 + i) rfl (by omega) (by decide) dX6_goDay_199 ?_
              refine g_top (y := g2 (5 + i)) (mp_4 _ (by omega)) ?_
              refine g_iast hC 6 rfl (4 + i) rfl (by omega) (by decide) [(mo, o6 rm (nI tl) pl (nI np) (nI nq) (nI nd) rt rp rq rd (nI cnt) (nI na) sd rw rx tm tf sm sf), (rm 1, .inl (cI, 5, .inl (fun k_ => nI (P 0 k_)))), (rm 3, .inl (cI, 5, .inl (fun k_ => nI (P 2 k_)))), (rm 4, .inl (cI, 5, .inl (fun k_ => nI (P 3 k_)))), (rm 5, .inl (cI, 5, .inl (fun k_ => nI (P 4 k_)))), (rm 6, .inl (cI, 5, .inl (fun k_ => nI (P 5 k_)))), (pa, .inl (cI, 20, .inl (upd (mp g2) (4 + i) (g2 (5 + i)))))] rfl dX6_goDay_200 ?_
              refine g_ws (ws2 := [(mo, o6 rm (nI tl) pl (nI np) (nI nq) (nI nd) rt rp rq rd (nI cnt) (nI na) sd rw rx tm tf sm sf), (rm 1, .inl (cI, 5, .inl (fun k_ => nI (P 0 k_)))), (rm 3, .inl (cI, 5, .inl (fun k_ => nI (P 2 k_)))), (rm 4, .inl (cI, 5, .inl (fun k_ => nI (P 3 k_)))), (rm 5, .inl (cI, 5, .inl (fun k_ => nI (P 4 k_)))), (rm 6, .inl (cI, 5, .inl (fun k_ => nI (P 5 k_)))), (pa, .inl (cI, 20, .inl (mp (upd g2 (5 + i) (g2 (5 + i))))))]) (congrArg (fun zz : Nat → Int32 => ([(mo, o6 rm (nI tl) pl (nI np) (nI nq) (nI nd) rt rp rq rd (nI cnt) (nI na) sd rw rx tm tf sm sf), (rm 1, .inl (cI, 5, .inl (fun k_ => nI (P 0 k_)))), (rm 3, .inl (cI, 5, .inl (fun k_ => nI (P 2 k_)))), (rm 4, .inl (cI, 5, .inl (fun k_ => nI (P 3 k_)))), (rm 5, .inl (cI, 5, .inl (fun k_ => nI (P 4 k_)))), (rm 6, .inl (cI, 5, .inl (fun k_ => nI (P 5 k_)))), (pa, .inl (cI, 20, .inl zz))] : va_W)) (mpu_4 _ _ (by omega))) ?_
              refine g_iinc (v := nI (i + 1)) (lv' := [(0, .ref mo), (1, .ref pa), (2, .int (nI x)), (3, .int (nI (i + 1))), (4, .int (nI 0))]) hC 3 [1, 2, 3, 0, 4] dX6_goDay_201 rfl (nI_add _ 1) (by decide) rfl ?_
              refine g_goto hC 132 dX6_goDay_204 (by decide) ?_
              refine g_lv [0, 1, 2, 3] (lv2 := [(0, .ref mo), (1, .ref pa), (2, .int (nI x)), (3, .int (nI (i + 1)))]) rfl ?_
              refine ih132 (i + 1) (upd g2 (5 + i) (g2 (5 + i))) ?_ ?_ ?_
              · omega
              · show _ = (if sellD P cB i (5 + i) = nI 1 ∧ nI 9 ≤ cB 1 - cB (10 + i) ∧ P 2 i ≠ 3 then upd (sellD P cB i) (5 + i) (nI 2) else sellD P cB i)
                have e1 : g2 1 = cB 1 := by rw [hg2]; exact sellD_ne P cB i (by omega)
                have e2 : g2 (10 + i) = cB (10 + i) := by rw [hg2]; exact sellD_ne P cB i (by omega)
                rw [← hg2, ← e1, ← e2]
                rw [if_neg (fun q => q.2.2 h156t), upd_id]
              · omega
            refine g_aload_n hC 1 dX6_goDay_159 rfl rfl ?_
            refine g_bipush (v := nI 19) hC dX6_goDay_160 (by decide +kernel) ?_
            refine g_iald hC 6 rfl 19 rfl (by omega) (by decide) dX6_goDay_162 ?_
            refine g_top (y := g2 1) (mp_19 _) ?_
            refine g_aload_n hC 1 dX6_goDay_163 rfl rfl ?_
            refine g_bipush (v := nI 9) hC dX6_goDay_164 (by decide +kernel) ?_
            refine g_iload_n hC 3 dX6_goDay_166 rfl rfl ?_
            refine g_iadd_n (a := 9) (b := i) hC dX6_goDay_167 ?_
            refine g_iald hC 6 rfl (9 + i) rfl (by omega) (by decide) dX6_goDay_168 ?_
            refine g_top (y := g2 (10 + i)) (mp_9 _ (by omega)) ?_
            refine g_isub hC dX6_goDay_169 ?_
            refine g_bipush (v := nI 9) hC dX6_goDay_170 (by decide +kernel) ?_
            refine g_icmp_lt hC 179 dX6_goDay_172 (by decide) (fun h172t => ?_) (fun h172f => ?_)
            · refine g_iconst (v := nI 0) hC dX6_goDay_179 rfl ?_
              refine g_istore (lv' := [(0, .ref mo), (1, .ref pa), (2, .int (nI x)), (3, .int (nI i)), (4, .int (nI 0))]) hC [1, 2, 3, 4, 0] dX6_goDay_180 (by decide) rfl ?_
              refine g_aload_n hC 1 dX6_goDay_182 rfl rfl ?_
              refine g_iconst (v := nI 4) hC dX6_goDay_183 rfl ?_
              refine g_iload_n hC 3 dX6_goDay_184 rfl rfl ?_
              refine g_iadd_n (a := 4) (b := i) hC dX6_goDay_185 ?_
              refine g_iload hC 4 dX6_goDay_186 rfl ?_
              refine g_if_eq_n (a := 0) hC (by omega) 195 dX6_goDay_188 (by decide) (fun _ => ?_) (fun q => absurd q (by decide))
              refine g_aload_n hC 1 dX6_goDay_195 rfl rfl ?_
              refine g_iconst (v := nI 4) hC dX6_goDay_196 rfl ?_
              refine g_iload_n hC 3 dX6_goDay_197 rfl rfl ?_
              refine g_iadd_n (a := 4) (b := i) hC dX6_goDay_198 ?_
              refine g_iald hC 6 rfl (4 + i) rfl (by omega) (by decide) dX6_goDay_199 ?_
              refine g_top (y := g2 (5 + i)) (mp_4 _ (by omega)) ?_
              refine g_iast hC 6 rfl (4 + i) rfl (by omega) (by decide) [(mo, o6 rm (nI tl) pl (nI np) (nI nq) (nI nd) rt rp rq rd (nI cnt) (nI na) sd rw rx tm tf sm sf), (rm 1, .inl (cI, 5, .inl (fun k_ => nI (P 0 k_)))), (rm 3, .inl (cI, 5, .inl (fun k_ => nI (P 2 k_)))), (rm 4, .inl (cI, 5, .inl (fun k_ => nI (P 3 k_)))), (rm 5, .inl (cI, 5, .inl (fun k_ => nI (P 4 k_)))), (rm 6, .inl (cI, 5, .inl (fun k_ => nI (P 5 k_)))), (pa, .inl (cI, 20, .inl (upd (mp g2) (4 + i) (g2 (5 + i)))))] rfl dX6_goDay_200 ?_
              refine g_ws (ws2 := [(mo, o6 rm (nI tl) pl (nI np) (nI nq) (nI nd) rt rp rq rd (nI cnt) (nI na) sd rw rx tm tf sm sf), (rm 1, .inl (cI, 5, .inl (fun k_ => nI (P 0 k_)))), (rm 3, .inl (cI, 5, .inl (fun k_ => nI (P 2 k_)))), (rm 4, .inl (cI, 5, .inl (fun k_ => nI (P 3 k_)))), (rm 5, .inl (cI, 5, .inl (fun k_ => nI (P 4 k_)))), (rm 6, .inl (cI, 5, .inl (fun k_ => nI (P 5 k_)))), (pa, .inl (cI, 20, .inl (mp (upd g2 (5 + i) (g2 (5 + i))))))]) (congrArg (fun zz : Nat → Int32 => ([(mo, o6 rm (nI tl) pl (nI np) (nI nq) (nI nd) rt rp rq rd (nI cnt) (nI na) sd rw rx tm tf sm sf), (rm 1, .inl (cI, 5, .inl (fun k_ => nI (P 0 k_)))), (rm 3, .inl (cI, 5, .inl (fun k_ => nI (P 2 k_)))), (rm 4, .inl (cI, 5, .inl (fun k_ => nI (P 3 k_)))), (rm 5, .inl (cI, 5, .inl (fun k_ => nI (P 4 k_)))), (rm 6, .inl (cI, 5, .inl (fun k_ => nI (P 5 k_)))), (pa, .inl (cI, 20, .inl zz))] : va_W)) (mpu_4 _ _ (by omega))) ?_
              refine g_iinc (v := nI (i + 1)) (lv' := [(0, .ref mo), (1, .ref pa), (2, .int (nI x)), (3, .int (nI (i + 1))), (4, .int (nI 0))]) hC 3 [1, 2, 3, 0, 4] dX6_goDay_201 rfl (nI_add _ 1) (by decide) rfl ?_
              refine g_goto hC 132 dX6_goDay_204 (by decide) ?_
              refine g_lv [0, 1, 2, 3] (lv2 := [(0, .ref mo), (1, .ref pa), (2, .int (nI x)), (3, .int (nI (i + 1)))]) rfl ?_
              refine ih132 (i + 1) (upd g2 (5 + i) (g2 (5 + i))) ?_ ?_ ?_
              · omega
              · show _ = (if sellD P cB i (5 + i) = nI 1 ∧ nI 9 ≤ cB 1 - cB (10 + i) ∧ P 2 i ≠ 3 then upd (sellD P cB i) (5 + i) (nI 2) else sellD P cB i)
                have e1 : g2 1 = cB 1 := by rw [hg2]; exact sellD_ne P cB i (by omega)
                have e2 : g2 (10 + i) = cB (10 + i) := by rw [hg2]; exact sellD_ne P cB i (by omega)
                rw [← hg2, ← e1, ← e2]
                rw [if_neg (fun q => absurd q.2.1 (Int32.not_le.mpr h172t)), upd_id]
              · omega
            refine g_iconst (v := nI 1) hC dX6_goDay_175 rfl ?_
            refine g_goto hC 180 dX6_goDay_176 (by decide) ?_
            refine g_istore (lv' := [(0, .ref mo), (1, .ref pa), (2, .int (nI x)), (3, .int (nI i)), (4, .int (nI 1))]) hC [1, 2, 3, 4, 0] dX6_goDay_180 (by decide) rfl ?_
            refine g_aload_n hC 1 dX6_goDay_182 rfl rfl ?_
            refine g_iconst (v := nI 4) hC dX6_goDay_183 rfl ?_
            refine g_iload_n hC 3 dX6_goDay_184 rfl rfl ?_
            refine g_iadd_n (a := 4) (b := i) hC dX6_goDay_185 ?_
            refine g_iload hC 4 dX6_goDay_186 rfl ?_
            refine g_if_eq_n (a := 1) hC (by omega) 195 dX6_goDay_188 (by decide) (fun q => absurd q (by decide)) (fun _ => ?_)
            refine g_iconst (v := nI 2) hC dX6_goDay_191 rfl ?_
            refine g_goto hC 200 dX6_goDay_192 (by decide) ?_
            refine g_iast hC 6 rfl (4 + i) rfl (by omega) (by decide) [(mo, o6 rm (nI tl) pl (nI np) (nI nq) (nI nd) rt rp rq rd (nI cnt) (nI na) sd rw rx tm tf sm sf), (rm 1, .inl (cI, 5, .inl (fun k_ => nI (P 0 k_)))), (rm 3, .inl (cI, 5, .inl (fun k_ => nI (P 2 k_)))), (rm 4, .inl (cI, 5, .inl (fun k_ => nI (P 3 k_)))), (rm 5, .inl (cI, 5, .inl (fun k_ => nI (P 4 k_)))), (rm 6, .inl (cI, 5, .inl (fun k_ => nI (P 5 k_)))), (pa, .inl (cI, 20, .inl (upd (mp g2) (4 + i) (nI 2))))] rfl dX6_goDay_200 ?_
            refine g_ws (ws2 := [(mo, o6 rm (nI tl) pl (nI np) (nI nq) (nI nd) rt rp rq rd (nI cnt) (nI na) sd rw rx tm tf sm sf), (rm 1, .inl (cI, 5, .inl (fun k_ => nI (P 0 k_)))), (rm 3, .inl (cI, 5, .inl (fun k_ => nI (P 2 k_)))), (rm 4, .inl (cI, 5, .inl (fun k_ => nI (P 3 k_)))), (rm 5, .inl (cI, 5, .inl (fun k_ => nI (P 4 k_)))), (rm 6, .inl (cI, 5, .inl (fun k_ => nI (P 5 k_)))), (pa, .inl (cI, 20, .inl (mp (upd g2 (5 + i) (nI 2)))))]) (congrArg (fun zz : Nat → Int32 => ([(mo, o6 rm (nI tl) pl (nI np) (nI nq) (nI nd) rt rp rq rd (nI cnt) (nI na) sd rw rx tm tf sm sf), (rm 1, .inl (cI, 5, .inl (fun k_ => nI (P 0 k_)))), (rm 3, .inl (cI, 5, .inl (fun k_ => nI (P 2 k_)))), (rm 4, .inl (cI, 5, .inl (fun k_ => nI (P 3 k_)))), (rm 5, .inl (cI, 5, .inl (fun k_ => nI (P 4 k_)))), (rm 6, .inl (cI, 5, .inl (fun k_ => nI (P 5 k_)))), (pa, .inl (cI, 20, .inl zz))] : va_W)) (mpu_4 _ _ (by omega))) ?_
            refine g_iinc (v := nI (i + 1)) (lv' := [(0, .ref mo), (1, .ref pa), (2, .int (nI x)), (3, .int (nI (i + 1))), (4, .int (nI 1))]) hC 3 [1, 2, 3, 0, 4] dX6_goDay_201 rfl (nI_add _ 1) (by decide) rfl ?_
            refine g_goto hC 132 dX6_goDay_204 (by decide) ?_
            refine g_lv [0, 1, 2, 3] (lv2 := [(0, .ref mo), (1, .ref pa), (2, .int (nI x)), (3, .int (nI (i + 1)))]) rfl ?_
            refine ih132 (i + 1) (upd g2 (5 + i) (nI 2)) ?_ ?_ ?_
            · omega
            · show _ = (if sellD P cB i (5 + i) = nI 1 ∧ nI 9 ≤ cB 1 - cB (10 + i) ∧ P 2 i ≠ 3 then upd (sellD P cB i) (5 + i) (nI 2) else sellD P cB i)
              have e1 : g2 1 = cB 1 := by rw [hg2]; exact sellD_ne P cB i (by omega)
              have e2 : g2 (10 + i) = cB (10 + i) := by rw [hg2]; exact sellD_ne P cB i (by omega)
              rw [← hg2, ← e1, ← e2]
              rw [if_pos ⟨h146f, Int32.not_lt.mp h172f, h156f⟩]
            · omega
        refine L132 _ 0 (upd g 1 ((g 1) + (nI 1))) ?_ ?_ (Nat.lt_succ_self _)
        · omega
        · rw [hcB]; rfl
      obtain ⟨hw3, hw4, hw5⟩ := hd5 i (by omega)
      have ho3 := (hq4 _ hw3).1
      refine g_aload_n hC 0 dX6_goDay_12 rfl rfl ?_
      refine g_get (C := RX6) (T := TX6) (N := 38) (ci := 6) (v := .ref (rm 5)) hC hcw6 0 rfl rfl 11 (by decide) w2 (fun _ h => h) rfl dX6_goDay_13 ?_
      refine g_iload_n hC 3 dX6_goDay_16 rfl rfl ?_
      refine g_iald hC 4 rfl i rfl (by omega) (by decide) dX6_goDay_17 ?_
      refine g_aload_n hC 1 dX6_goDay_18 rfl rfl ?_
      refine g_bipush (v := nI 19) hC dX6_goDay_19 (by decide +kernel) ?_
      refine g_iald hC 6 rfl 19 rfl (by omega) (by decide) dX6_goDay_21 ?_
      refine g_top (y := g 1) (mp_19 _) ?_
      refine g_icmp_ne hC 116 dX6_goDay_22 (by decide) (fun h22t => ?_) (fun h22f => ?_)
      · refine g_iinc (v := nI (i + 1)) (lv' := [(0, .ref mo), (1, .ref pa), (2, .int (nI x)), (3, .int (nI (i + 1)))]) hC 3 [1, 2, 3, 0] dX6_goDay_116 rfl (nI_add _ 1) (by decide) rfl ?_
        refine g_goto hC 4 dX6_goDay_119 (by decide) ?_
        refine ih4 (i + 1) x g ?_ ?_ ?_ ?_
        · omega
        · have e1 : g 1 = c 1 := by rw [hg]; exact dayD_day hW c (by omega) i (by omega)
          show _ = cntD P c i + (if nI (P 4 i) = c 1 ∧ dayD P c i (5 + P 3 i) = nI 0 then 1 else 0)
          rw [← e1, ← hg, ← hx]
          rw [if_neg (fun q => h22t q.1)]; rfl
        · have e1 : g 1 = c 1 := by rw [hg]; exact dayD_day hW c (by omega) i (by omega)
          show _ = (if nI (P 4 i) = c 1 then deedF P (dayD P c i) i else dayD P c i)
          rw [← e1, if_neg h22t]; exact hg
        · omega
      refine g_aload_n hC 1 dX6_goDay_25 rfl rfl ?_
      refine g_bipush (v := nI 14) hC dX6_goDay_26 (by decide +kernel) ?_
      refine g_iload_n hC 3 dX6_goDay_28 rfl rfl ?_
      refine g_iadd_n (a := 14) (b := i) hC dX6_goDay_29 ?_
      refine g_iald hC 6 rfl (14 + i) rfl (by omega) (by decide) dX6_goDay_30 ?_
      refine g_top (y := g (15 + i)) (mp_14 _ (by omega)) ?_
      refine g_if_ne hC 116 dX6_goDay_31 (by decide) (fun h31t => ?_) (fun h31f => ?_)
      · exact absurd (by rw [hg, dayD_out hW c (by omega) i (by omega) (Nat.le_refl _)]; exact hF i (by omega) (by rw [h22f, hg]; exact dayD_day hW c (by omega) i (by omega))) h31t
      refine g_aload_n hC 1 dX6_goDay_34 rfl rfl ?_
      refine g_iconst (v := nI 4) hC dX6_goDay_35 rfl ?_
      refine g_aload_n hC 0 dX6_goDay_36 rfl rfl ?_
      refine g_get (C := RX6) (T := TX6) (N := 38) (ci := 6) (v := .ref (rm 4)) hC hcw6 0 rfl rfl 10 (by decide) w3 (fun _ h => h) rfl dX6_goDay_37 ?_
      refine g_iload_n hC 3 dX6_goDay_40 rfl rfl ?_
      refine g_iald hC 3 rfl i rfl (by omega) (by decide) dX6_goDay_41 ?_
      refine g_iadd_n (a := 4) (b := (P 3 i)) hC dX6_goDay_42 ?_
      refine g_iald hC 6 rfl (4 + (P 3 i)) rfl (by omega) (by decide) dX6_goDay_43 ?_
      refine g_top (y := g (5 + (P 3 i))) (mp_4 _ (by omega)) ?_
      refine g_if_ne hC 51 dX6_goDay_44 (by decide) (fun h44t => ?_) (fun h44f => ?_)
      · refine g_iconst (v := nI 0) hC dX6_goDay_51 rfl ?_
        refine g_istore (lv' := [(0, .ref mo), (1, .ref pa), (2, .int (nI x)), (3, .int (nI i)), (4, .int (nI 0))]) hC [1, 2, 3, 4, 0] dX6_goDay_52 (by decide) rfl ?_
        refine g_aload_n hC 1 dX6_goDay_54 rfl rfl ?_
        refine g_bipush (v := nI 14) hC dX6_goDay_55 (by decide +kernel) ?_
        refine g_iload_n hC 3 dX6_goDay_57 rfl rfl ?_
        refine g_iadd_n (a := 14) (b := i) hC dX6_goDay_58 ?_
        refine g_iload hC 4 dX6_goDay_59 rfl ?_
        refine g_if_eq_n (a := 0) hC (by omega) 68 dX6_goDay_61 (by decide) (fun _ => ?_) (fun q => absurd q (by decide))
        refine g_iconst (v := nI 2) hC dX6_goDay_68 rfl ?_
        refine g_iast hC 6 rfl (14 + i) rfl (by omega) (by decide) [(mo, o6 rm (nI tl) pl (nI np) (nI nq) (nI nd) rt rp rq rd (nI cnt) (nI na) sd rw rx tm tf sm sf), (rm 1, .inl (cI, 5, .inl (fun k_ => nI (P 0 k_)))), (rm 3, .inl (cI, 5, .inl (fun k_ => nI (P 2 k_)))), (rm 4, .inl (cI, 5, .inl (fun k_ => nI (P 3 k_)))), (rm 5, .inl (cI, 5, .inl (fun k_ => nI (P 4 k_)))), (rm 6, .inl (cI, 5, .inl (fun k_ => nI (P 5 k_)))), (pa, .inl (cI, 20, .inl (upd (mp g) (14 + i) (nI 2))))] rfl dX6_goDay_69 ?_
        refine g_ws (ws2 := [(mo, o6 rm (nI tl) pl (nI np) (nI nq) (nI nd) rt rp rq rd (nI cnt) (nI na) sd rw rx tm tf sm sf), (rm 1, .inl (cI, 5, .inl (fun k_ => nI (P 0 k_)))), (rm 3, .inl (cI, 5, .inl (fun k_ => nI (P 2 k_)))), (rm 4, .inl (cI, 5, .inl (fun k_ => nI (P 3 k_)))), (rm 5, .inl (cI, 5, .inl (fun k_ => nI (P 4 k_)))), (rm 6, .inl (cI, 5, .inl (fun k_ => nI (P 5 k_)))), (pa, .inl (cI, 20, .inl (mp (upd g (15 + i) (nI 2)))))]) (congrArg (fun zz : Nat → Int32 => ([(mo, o6 rm (nI tl) pl (nI np) (nI nq) (nI nd) rt rp rq rd (nI cnt) (nI na) sd rw rx tm tf sm sf), (rm 1, .inl (cI, 5, .inl (fun k_ => nI (P 0 k_)))), (rm 3, .inl (cI, 5, .inl (fun k_ => nI (P 2 k_)))), (rm 4, .inl (cI, 5, .inl (fun k_ => nI (P 3 k_)))), (rm 5, .inl (cI, 5, .inl (fun k_ => nI (P 4 k_)))), (rm 6, .inl (cI, 5, .inl (fun k_ => nI (P 5 k_)))), (pa, .inl (cI, 20, .inl zz))] : va_W)) (mpu_14 _ _ (by omega))) ?_
        refine g_aload_n hC 1 dX6_goDay_70 rfl rfl ?_
        refine g_iconst (v := nI 1) hC dX6_goDay_71 rfl ?_
        refine g_aload_n hC 0 dX6_goDay_72 rfl rfl ?_
        refine g_get (C := RX6) (T := TX6) (N := 38) (ci := 6) (v := .ref (rm 1)) hC hcw6 0 rfl rfl 6 (by decide) w4 (fun _ h => h) rfl dX6_goDay_73 ?_
        refine g_aload_n hC 0 dX6_goDay_76 rfl rfl ?_
        refine g_get (C := RX6) (T := TX6) (N := 38) (ci := 6) (v := .ref (rm 4)) hC hcw6 0 rfl rfl 10 (by decide) w3 (fun _ h => h) rfl dX6_goDay_77 ?_
        refine g_iload_n hC 3 dX6_goDay_80 rfl rfl ?_
        refine g_iald hC 3 rfl i rfl (by omega) (by decide) dX6_goDay_81 ?_
        refine g_iald hC 1 rfl (P 3 i) rfl (by omega) (by decide) dX6_goDay_82 ?_
        refine g_iadd_n (a := 1) (b := (P 0 (P 3 i))) hC dX6_goDay_83 ?_
        refine g_dup2 hC dX6_goDay_84 rfl rfl ?_
        refine g_iald hC 6 rfl (1 + (P 0 (P 3 i))) rfl (by omega) (by decide) dX6_goDay_85 ?_
        refine g_top (y := (upd g (15 + i) (nI 2)) (2 + (P 0 (P 3 i)))) (mp_1 _ (by omega)) ?_
        refine g_iload hC 4 dX6_goDay_86 rfl ?_
        refine g_if_eq_n (a := 0) hC (by omega) 100 dX6_goDay_88 (by decide) (fun _ => ?_) (fun q => absurd q (by decide))
        refine g_iconst (v := nI 0) hC dX6_goDay_100 rfl ?_
        refine g_iadd hC dX6_goDay_101 ?_
        refine g_iast hC 6 rfl (1 + (P 0 (P 3 i))) rfl (by omega) (by decide) [(mo, o6 rm (nI tl) pl (nI np) (nI nq) (nI nd) rt rp rq rd (nI cnt) (nI na) sd rw rx tm tf sm sf), (rm 1, .inl (cI, 5, .inl (fun k_ => nI (P 0 k_)))), (rm 3, .inl (cI, 5, .inl (fun k_ => nI (P 2 k_)))), (rm 4, .inl (cI, 5, .inl (fun k_ => nI (P 3 k_)))), (rm 5, .inl (cI, 5, .inl (fun k_ => nI (P 4 k_)))), (rm 6, .inl (cI, 5, .inl (fun k_ => nI (P 5 k_)))), (pa, .inl (cI, 20, .inl (upd (mp (upd g (15 + i) (nI 2))) (1 + (P 0 (P 3 i))) (((upd g (15 + i) (nI 2)) (2 + (P 0 (P 3 i)))) + (nI 0)))))] rfl dX6_goDay_102 ?_
        refine g_ws (ws2 := [(mo, o6 rm (nI tl) pl (nI np) (nI nq) (nI nd) rt rp rq rd (nI cnt) (nI na) sd rw rx tm tf sm sf), (rm 1, .inl (cI, 5, .inl (fun k_ => nI (P 0 k_)))), (rm 3, .inl (cI, 5, .inl (fun k_ => nI (P 2 k_)))), (rm 4, .inl (cI, 5, .inl (fun k_ => nI (P 3 k_)))), (rm 5, .inl (cI, 5, .inl (fun k_ => nI (P 4 k_)))), (rm 6, .inl (cI, 5, .inl (fun k_ => nI (P 5 k_)))), (pa, .inl (cI, 20, .inl (mp (upd (upd g (15 + i) (nI 2)) (2 + (P 0 (P 3 i))) (((upd g (15 + i) (nI 2)) (2 + (P 0 (P 3 i)))) + (nI 0))))))]) (congrArg (fun zz : Nat → Int32 => ([(mo, o6 rm (nI tl) pl (nI np) (nI nq) (nI nd) rt rp rq rd (nI cnt) (nI na) sd rw rx tm tf sm sf), (rm 1, .inl (cI, 5, .inl (fun k_ => nI (P 0 k_)))), (rm 3, .inl (cI, 5, .inl (fun k_ => nI (P 2 k_)))), (rm 4, .inl (cI, 5, .inl (fun k_ => nI (P 3 k_)))), (rm 5, .inl (cI, 5, .inl (fun k_ => nI (P 4 k_)))), (rm 6, .inl (cI, 5, .inl (fun k_ => nI (P 5 k_)))), (pa, .inl (cI, 20, .inl zz))] : va_W)) (mpu_1 _ _ (by omega))) ?_
        refine g_iload_n hC 2 dX6_goDay_103 rfl rfl ?_
        refine g_iload hC 4 dX6_goDay_104 rfl ?_
        refine g_if_eq_n (a := 0) hC (by omega) 113 dX6_goDay_106 (by decide) (fun _ => ?_) (fun q => absurd q (by decide))
        refine g_iconst (v := nI 0) hC dX6_goDay_113 rfl ?_
        refine g_iadd_n (a := x) (b := 0) hC dX6_goDay_114 ?_
        refine g_istore_n (lv' := [(0, .ref mo), (1, .ref pa), (2, .int (nI (x + 0))), (3, .int (nI i)), (4, .int (nI 0))]) hC [1, 2, 0, 3, 4] dX6_goDay_115 rfl (by decide) rfl ?_
        refine g_iinc (v := nI (i + 1)) (lv' := [(0, .ref mo), (1, .ref pa), (2, .int (nI (x + 0))), (3, .int (nI (i + 1))), (4, .int (nI 0))]) hC 3 [1, 2, 3, 0, 4] dX6_goDay_116 rfl (nI_add _ 1) (by decide) rfl ?_
        refine g_goto hC 4 dX6_goDay_119 (by decide) ?_
        refine g_lv [0, 1, 2, 3] (lv2 := [(0, .ref mo), (1, .ref pa), (2, .int (nI (x + 0))), (3, .int (nI (i + 1)))]) rfl ?_
        refine ih4 (i + 1) (x + 0) (upd (upd g (15 + i) (nI 2)) (2 + (P 0 (P 3 i))) (((upd g (15 + i) (nI 2)) (2 + (P 0 (P 3 i)))) + (nI 0))) ?_ ?_ ?_ ?_
        · omega
        · have e1 : g 1 = c 1 := by rw [hg]; exact dayD_day hW c (by omega) i (by omega)
          show _ = cntD P c i + (if nI (P 4 i) = c 1 ∧ dayD P c i (5 + P 3 i) = nI 0 then 1 else 0)
          rw [← e1, ← hg, ← hx]
          rw [if_neg (fun q => h44t q.2)]
        · have e1 : g 1 = c 1 := by rw [hg]; exact dayD_day hW c (by omega) i (by omega)
          show _ = (if nI (P 4 i) = c 1 then deedF P (dayD P c i) i else dayD P c i)
          rw [← e1, if_pos h22f, ← hg, deedF, if_neg h44t, upd_add0]
        · omega
      refine g_iconst (v := nI 1) hC dX6_goDay_47 rfl ?_
      refine g_goto hC 52 dX6_goDay_48 (by decide) ?_
      refine g_istore (lv' := [(0, .ref mo), (1, .ref pa), (2, .int (nI x)), (3, .int (nI i)), (4, .int (nI 1))]) hC [1, 2, 3, 4, 0] dX6_goDay_52 (by decide) rfl ?_
      refine g_aload_n hC 1 dX6_goDay_54 rfl rfl ?_
      refine g_bipush (v := nI 14) hC dX6_goDay_55 (by decide +kernel) ?_
      refine g_iload_n hC 3 dX6_goDay_57 rfl rfl ?_
      refine g_iadd_n (a := 14) (b := i) hC dX6_goDay_58 ?_
      refine g_iload hC 4 dX6_goDay_59 rfl ?_
      refine g_if_eq_n (a := 1) hC (by omega) 68 dX6_goDay_61 (by decide) (fun q => absurd q (by decide)) (fun _ => ?_)
      refine g_iconst (v := nI 1) hC dX6_goDay_64 rfl ?_
      refine g_goto hC 69 dX6_goDay_65 (by decide) ?_
      refine g_iast hC 6 rfl (14 + i) rfl (by omega) (by decide) [(mo, o6 rm (nI tl) pl (nI np) (nI nq) (nI nd) rt rp rq rd (nI cnt) (nI na) sd rw rx tm tf sm sf), (rm 1, .inl (cI, 5, .inl (fun k_ => nI (P 0 k_)))), (rm 3, .inl (cI, 5, .inl (fun k_ => nI (P 2 k_)))), (rm 4, .inl (cI, 5, .inl (fun k_ => nI (P 3 k_)))), (rm 5, .inl (cI, 5, .inl (fun k_ => nI (P 4 k_)))), (rm 6, .inl (cI, 5, .inl (fun k_ => nI (P 5 k_)))), (pa, .inl (cI, 20, .inl (upd (mp g) (14 + i) (nI 1))))] rfl dX6_goDay_69 ?_
      refine g_ws (ws2 := [(mo, o6 rm (nI tl) pl (nI np) (nI nq) (nI nd) rt rp rq rd (nI cnt) (nI na) sd rw rx tm tf sm sf), (rm 1, .inl (cI, 5, .inl (fun k_ => nI (P 0 k_)))), (rm 3, .inl (cI, 5, .inl (fun k_ => nI (P 2 k_)))), (rm 4, .inl (cI, 5, .inl (fun k_ => nI (P 3 k_)))), (rm 5, .inl (cI, 5, .inl (fun k_ => nI (P 4 k_)))), (rm 6, .inl (cI, 5, .inl (fun k_ => nI (P 5 k_)))), (pa, .inl (cI, 20, .inl (mp (upd g (15 + i) (nI 1)))))]) (congrArg (fun zz : Nat → Int32 => ([(mo, o6 rm (nI tl) pl (nI np) (nI nq) (nI nd) rt rp rq rd (nI cnt) (nI na) sd rw rx tm tf sm sf), (rm 1, .inl (cI, 5, .inl (fun k_ => nI (P 0 k_)))), (rm 3, .inl (cI, 5, .inl (fun k_ => nI (P 2 k_)))), (rm 4, .inl (cI, 5, .inl (fun k_ => nI (P 3 k_)))), (rm 5, .inl (cI, 5, .inl (fun k_ => nI (P 4 k_)))), (rm 6, .inl (cI, 5, .inl (fun k_ => nI (P 5 k_)))), (pa, .inl (cI, 20, .inl zz))] : va_W)) (mpu_14 _ _ (by omega))) ?_
      refine g_aload_n hC 1 dX6_goDay_70 rfl rfl ?_
      refine g_iconst (v := nI 1) hC dX6_goDay_71 rfl ?_
      refine g_aload_n hC 0 dX6_goDay_72 rfl rfl ?_
      refine g_get (C := RX6) (T := TX6) (N := 38) (ci := 6) (v := .ref (rm 1)) hC hcw6 0 rfl rfl 6 (by decide) w4 (fun _ h => h) rfl dX6_goDay_73 ?_
      refine g_aload_n hC 0 dX6_goDay_76 rfl rfl ?_
      refine g_get (C := RX6) (T := TX6) (N := 38) (ci := 6) (v := .ref (rm 4)) hC hcw6 0 rfl rfl 10 (by decide) w3 (fun _ h => h) rfl dX6_goDay_77 ?_
      refine g_iload_n hC 3 dX6_goDay_80 rfl rfl ?_
      refine g_iald hC 3 rfl i rfl (by omega) (by decide) dX6_goDay_81 ?_
      refine g_iald hC 1 rfl (P 3 i) rfl (by omega) (by decide) dX6_goDay_82 ?_
      refine g_iadd_n (a := 1) (b := (P 0 (P 3 i))) hC dX6_goDay_83 ?_
      refine g_dup2 hC dX6_goDay_84 rfl rfl ?_
      refine g_iald hC 6 rfl (1 + (P 0 (P 3 i))) rfl (by omega) (by decide) dX6_goDay_85 ?_
      refine g_top (y := (upd g (15 + i) (nI 1)) (2 + (P 0 (P 3 i)))) (mp_1 _ (by omega)) ?_
      refine g_iload hC 4 dX6_goDay_86 rfl ?_
      refine g_if_eq_n (a := 1) hC (by omega) 100 dX6_goDay_88 (by decide) (fun q => absurd q (by decide)) (fun _ => ?_)
      refine g_aload_n hC 0 dX6_goDay_91 rfl rfl ?_
      refine g_get (C := RX6) (T := TX6) (N := 38) (ci := 6) (v := .ref (rm 6)) hC hcw6 0 rfl rfl 12 (by decide) w5 (fun _ h => h) rfl dX6_goDay_92 ?_
      refine g_iload_n hC 3 dX6_goDay_95 rfl rfl ?_
      refine g_iald hC 5 rfl i rfl (by omega) (by decide) dX6_goDay_96 ?_
      refine g_goto hC 101 dX6_goDay_97 (by decide) ?_
      refine g_iadd hC dX6_goDay_101 ?_
      refine g_iast hC 6 rfl (1 + (P 0 (P 3 i))) rfl (by omega) (by decide) [(mo, o6 rm (nI tl) pl (nI np) (nI nq) (nI nd) rt rp rq rd (nI cnt) (nI na) sd rw rx tm tf sm sf), (rm 1, .inl (cI, 5, .inl (fun k_ => nI (P 0 k_)))), (rm 3, .inl (cI, 5, .inl (fun k_ => nI (P 2 k_)))), (rm 4, .inl (cI, 5, .inl (fun k_ => nI (P 3 k_)))), (rm 5, .inl (cI, 5, .inl (fun k_ => nI (P 4 k_)))), (rm 6, .inl (cI, 5, .inl (fun k_ => nI (P 5 k_)))), (pa, .inl (cI, 20, .inl (upd (mp (upd g (15 + i) (nI 1))) (1 + (P 0 (P 3 i))) (((upd g (15 + i) (nI 1)) (2 + (P 0 (P 3 i)))) + (nI (P 5 i))))))] rfl dX6_goDay_102 ?_
      refine g_ws (ws2 := [(mo, o6 rm (nI tl) pl (nI np) (nI nq) (nI nd) rt rp rq rd (nI cnt) (nI na) sd rw rx tm tf sm sf), (rm 1, .inl (cI, 5, .inl (fun k_ => nI (P 0 k_)))), (rm 3, .inl (cI, 5, .inl (fun k_ => nI (P 2 k_)))), (rm 4, .inl (cI, 5, .inl (fun k_ => nI (P 3 k_)))), (rm 5, .inl (cI, 5, .inl (fun k_ => nI (P 4 k_)))), (rm 6, .inl (cI, 5, .inl (fun k_ => nI (P 5 k_)))), (pa, .inl (cI, 20, .inl (mp (upd (upd g (15 + i) (nI 1)) (2 + (P 0 (P 3 i))) (((upd g (15 + i) (nI 1)) (2 + (P 0 (P 3 i)))) + (nI (P 5 i)))))))]) (congrArg (fun zz : Nat → Int32 => ([(mo, o6 rm (nI tl) pl (nI np) (nI nq) (nI nd) rt rp rq rd (nI cnt) (nI na) sd rw rx tm tf sm sf), (rm 1, .inl (cI, 5, .inl (fun k_ => nI (P 0 k_)))), (rm 3, .inl (cI, 5, .inl (fun k_ => nI (P 2 k_)))), (rm 4, .inl (cI, 5, .inl (fun k_ => nI (P 3 k_)))), (rm 5, .inl (cI, 5, .inl (fun k_ => nI (P 4 k_)))), (rm 6, .inl (cI, 5, .inl (fun k_ => nI (P 5 k_)))), (pa, .inl (cI, 20, .inl zz))] : va_W)) (mpu_1 _ _ (by omega))) ?_
      refine g_iload_n hC 2 dX6_goDay_103 rfl rfl ?_
      refine g_iload hC 4 dX6_goDay_104 rfl ?_
      refine g_if_eq_n (a := 1) hC (by omega) 113 dX6_goDay_106 (by decide) (fun q => absurd q (by decide)) (fun _ => ?_)
      refine g_iconst (v := nI 1) hC dX6_goDay_109 rfl ?_
      refine g_goto hC 114 dX6_goDay_110 (by decide) ?_
      refine g_iadd_n (a := x) (b := 1) hC dX6_goDay_114 ?_
      refine g_istore_n (lv' := [(0, .ref mo), (1, .ref pa), (2, .int (nI (x + 1))), (3, .int (nI i)), (4, .int (nI 1))]) hC [1, 2, 0, 3, 4] dX6_goDay_115 rfl (by decide) rfl ?_
      refine g_iinc (v := nI (i + 1)) (lv' := [(0, .ref mo), (1, .ref pa), (2, .int (nI (x + 1))), (3, .int (nI (i + 1))), (4, .int (nI 1))]) hC 3 [1, 2, 3, 0, 4] dX6_goDay_116 rfl (nI_add _ 1) (by decide) rfl ?_
      refine g_goto hC 4 dX6_goDay_119 (by decide) ?_
      refine g_lv [0, 1, 2, 3] (lv2 := [(0, .ref mo), (1, .ref pa), (2, .int (nI (x + 1))), (3, .int (nI (i + 1)))]) rfl ?_
      refine ih4 (i + 1) (x + 1) (upd (upd g (15 + i) (nI 1)) (2 + (P 0 (P 3 i))) (((upd g (15 + i) (nI 1)) (2 + (P 0 (P 3 i)))) + (nI (P 5 i)))) ?_ ?_ ?_ ?_
      · omega
      · have e1 : g 1 = c 1 := by rw [hg]; exact dayD_day hW c (by omega) i (by omega)
        show _ = cntD P c i + (if nI (P 4 i) = c 1 ∧ dayD P c i (5 + P 3 i) = nI 0 then 1 else 0)
        rw [← e1, ← hg, ← hx]
        rw [if_pos ⟨h22f, h44f⟩]
      · have e1 : g 1 = c 1 := by rw [hg]; exact dayD_day hW c (by omega) i (by omega)
        show _ = (if nI (P 4 i) = c 1 then deedF P (dayD P c i) i else dayD P c i)
        rw [← e1, if_pos h22f, ← hg, deedF, if_pos h44f]; rfl
      · omega
  refine L4 _ 0 0 c ?_ ?_ ?_ (Nat.lt_succ_self _)
  · omega
  · rfl
  · rfl
