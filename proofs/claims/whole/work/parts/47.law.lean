/-! the law: its script, its end; what both sides have behind a call -/
section GL
variable {p : Program} {l : Launch} {e : Env} {R : Room} {s : State} {m : MethodId} {args : Array Value} {below : List Frame} {meth : Method} {cd : Code} {D : va_G} {cI cZ : ClassId} {A : Nat → Prop} {cells slots : Nat} {Q : State → Prop} {cc : ByteArray} {nL : Nat} {Ts : List Cond} {own : String} {ws : va_W} {pc : Nat} {lv : List (Nat × Value)} {st : List Value}
theorem g_slen (hC : gCx p s m args meth cd D cI cZ A cc nL Ts own) {b L : Nat} {xs : Nat → Int32} (hX : va_X b L xs s s.heap) (hbl : b < s.heap.size) (hbA : ¬ A b) (hdg : decode cc pc = .ok (.arraylength, 1)) (k : G p l e R s m args below meth cd D A cells slots Q nL ws (pc + 1) lv (.int (nI L) :: st)) : G p l e R s m args below meth cd D A cells slots Q nL ws pc lv (.ref b :: st) :=
  fun H locs ls hP hD hS hl => va_slen hC.1.1 hC.1.2.1 hX hbl hbA hS hdg (k H locs ls hP hD hS hl)
theorem g_sld (hC : gCx p s m args meth cd D cI cZ A cc nL Ts own) {b L : Nat} {xs : Nat → Int32} (hX : va_X b L xs s s.heap) (hbl : b < s.heap.size) (hbA : ¬ A b) {i : Int32} (j : Nat) (hi : i = nI j) (hj : j < L) (hL : L < 2 ^ 31) (hdg : decode cc pc = .ok (.iaload, 1)) (k : G p l e R s m args below meth cd D A cells slots Q nL ws (pc + 1) lv (.int (xs j) :: st)) : G p l e R s m args below meth cd D A cells slots Q nL ws pc lv (.int i :: .ref b :: st) := by
  subst hi
  intro H locs ls hP hD hS hl
  refine va_sld hC.1.1 hC.1.2.1 hX hbl hbA hS (vp_in_nI hj (by omega)) hdg ?_
  rw [nI_clamp (by omega)]
  exact k H locs ls hP hD hS hl
end GL
theorem wrL_le {tl : Nat} {a : Int32} (h : tl ≤ 48) : wrL tl a ≤ 48 := by
  unfold wrL
  split
  · split <;> omega
  · exact h
theorem wrX_lt {tx : Nat → Nat} {tl : Nat} {a : Int32} (h : ∀ k, tx k < 256) : ∀ k, wrX tx tl a k < 256 := by
  intro k
  unfold wrX
  by_cases ha : okL a
  · rw [if_pos ha]
    by_cases h48 : tl < 48
    · rw [if_pos h48]
      obtain ⟨v, hv, rfl⟩ := ok_n (M := 255) (by decide) ha
      unfold up1
      rw [K_n (by omega)]
      split
      · omega
      · exact h k
    · rw [if_neg h48]; exact h k
  · rw [if_neg ha]; exact h k
theorem askN_le {na : Nat} {a b : Int32} (h : na ≤ 6) : askN na a b ≤ 6 := by
  unfold askN
  split
  · split <;> omega
  · exact h
theorem lg_self (x : Int64) : lg_cmp x x = nI 0 := (lg_cmp_eq x x).mpr rfl
section ST
variable {np nq nd N u n kn : Nat} {P : Nat → Nat → Nat} {c f bk kf mk ik : Nat → Int32}
theorem act_step {A B : Prop} [Decidable A] [Decidable B] {r1 r2 x y1 y2 : Int32} {c1 c2 d f1 bk2 : Nat → Int32} {u1 n1 n2 : Nat}
    (h1 : (r1, c1, f1, u1, n1) = if A then (if B then (x, d, saveF f c u, ringU u, ringN n) else (y1, c, f, u, n)) else (y2, c, f, u, n))
    (h2 : (r2, c2, bk2, n2) = if A then (if B then (x, d, bkN bk n c, ringN n) else (y1, c, bk, n)) else (y2, c, bk, n))
    (hd : A → B → Good P nq nd (N + 1) d) (hW : WFP np nq nd P) (hG : Good P nq nd N c) (hR : Ring P nq nd N f u n bk) :
    r1 = r2 ∧ c1 = c2 ∧ n1 = n2 ∧ Good P nq nd (N + 1) c1 ∧ Ring P nq nd (N + 1) f1 u1 n1 bk2 := by
  by_cases a : A
  · rw [if_pos a] at h1 h2
    by_cases b : B
    · rw [if_pos b] at h1 h2
      simp only [Prod.mk.injEq] at h1 h2
      obtain ⟨rfl, rfl, rfl, rfl, rfl⟩ := h1
      obtain ⟨rfl, rfl, rfl, rfl⟩ := h2
      exact ⟨rfl, rfl, rfl, hd a b, (Ring.note hW hR hG).up (Nat.le_succ N)⟩
    · rw [if_neg b] at h1 h2
      simp only [Prod.mk.injEq] at h1 h2
      obtain ⟨rfl, rfl, rfl, rfl, rfl⟩ := h1
      obtain ⟨rfl, rfl, rfl, rfl⟩ := h2
      exact ⟨rfl, rfl, rfl, hG.up (Nat.le_succ N), hR.up (Nat.le_succ N)⟩
  · rw [if_neg a] at h1 h2
    simp only [Prod.mk.injEq] at h1 h2
    obtain ⟨rfl, rfl, rfl, rfl, rfl⟩ := h1
    obtain ⟨rfl, rfl, rfl, rfl⟩ := h2
    exact ⟨rfl, rfl, rfl, hG.up (Nat.le_succ N), hR.up (Nat.le_succ N)⟩
theorem gd_pledge (hW : WFP np nq nd P) (hG : Good P nq nd N c) (hN : N ≤ 64) {a : Int32} (h1 : inR a nq) (h2 : canP P c (K a)) : Good P nq nd (N + 1) (tryP P c (K a)) := by
  have h3 := hW.1
  obtain ⟨k, hk, rfl⟩ := inR_n (by omega) h1
  have e : K (nI k) = k := K_n (by omega)
  rw [e] at h2 ⊢
  rw [tryP, if_pos h2]
  exact (good_pledge hW hG (by omega) hk h2).up (Nat.le_succ N)
theorem gd_redeem (hW : WFP np nq nd P) (hG : Good P nq nd N c) (hN : N ≤ 64) {a : Int32} (h1 : inR a nq) (h2 : canR P c (K a)) : Good P nq nd (N + 1) (tryR P c (K a)) := by
  have h3 := hW.1
  obtain ⟨k, hk, rfl⟩ := inR_n (by omega) h1
  have e : K (nI k) = k := K_n (by omega)
  rw [e] at h2 ⊢
  rw [tryR, if_pos h2]
  exact good_redeem hW hG (by omega) hk h2
theorem gd_give (hW : WFP np nq nd P) (hG : Good P nq nd N c) {a v : Int32} (h1 : inR a np) (h2 : okG v) : Good P nq nd (N + 1) (tryG c (K a) v) := by
  have h3 := hW.1
  obtain ⟨k, hk, rfl⟩ := inR_n (by omega) h1
  have e : K (nI k) = k := K_n (by omega)
  rw [e, tryG, if_pos h2]
  exact (good_pay hW hG hk v).up (Nat.le_succ N)
theorem un_step {r1 r2 : Int32} {c1 c2 f1 : Nat → Int32} {u1 n1 n2 : Nat}
    (h1 : (r1, c1, f1, u1, n1) = if n = 0 then ((-3), c, f, u, n) else (nI (n - 1), loadF f (ringD u), f, ringD u, n - 1))
    (h2 : (r2, c2, n2) = if n = 0 then ((-3), c, n) else (nI (n - 1), loadF f (ringD u), n - 1))
    (hG : Good P nq nd N c) (hR : Ring P nq nd N f u n bk) :
    r1 = r2 ∧ c1 = c2 ∧ n1 = n2 ∧ Good P nq nd (N + 1) c1 ∧ Ring P nq nd (N + 1) f1 u1 n1 bk := by
  by_cases a : n = 0
  · rw [if_pos a] at h1 h2
    simp only [Prod.mk.injEq] at h1 h2
    obtain ⟨e1, e2, e3, e4, e5⟩ := h1
    obtain ⟨d1, d2, d3⟩ := h2
    rw [e1, e2, e3, e4, e5, d1, d2, d3]
    exact ⟨rfl, rfl, rfl, hG.up (Nat.le_succ N), hR.up (Nat.le_succ N)⟩
  · rw [if_neg a] at h1 h2
    have q := hR.undo (Nat.pos_of_ne_zero a)
    simp only [Prod.mk.injEq] at h1 h2
    obtain ⟨e1, e2, e3, e4, e5⟩ := h1
    obtain ⟨d1, d2, d3⟩ := h2
    rw [e1, e2, e3, e4, e5, d1, d2, d3]
    exact ⟨rfl, rfl, rfl, q.2.2.up (Nat.le_succ N), q.1.up (Nat.le_succ N)⟩
theorem ke_step {r1 r2 a : Int32} {kf2 mk2 ik2 : Nat → Int32} {kn2 : Nat}
    (h1 : (r1, kf2, kn2) = if okS a then (c 1, saveF kf c (K a), kn ||| 2 ^ K a) else ((-1), kf, kn))
    (h2 : (r2, mk2, ik2) = if okS a then (c 1, saveF mk (mp c) (K a), upd ik (K a) (nI 1)) else ((-1), mk, ik))
    (hW : WFP np nq nd P) (hG : Good P nq nd N c) (hK : Kep P nq nd N kf kn mk ik) :
    r1 = r2 ∧ Kep P nq nd (N + 1) kf2 kn2 mk2 ik2 := by
  by_cases o : okS a
  · rw [if_pos o] at h1 h2
    simp only [Prod.mk.injEq] at h1 h2
    obtain ⟨rfl, rfl, rfl⟩ := h1
    obtain ⟨rfl, rfl, rfl⟩ := h2
    obtain ⟨k, hk, rfl⟩ := inR_n (n := 2) (by decide) o
    rw [K_n (by omega)]
    exact ⟨rfl, (Kep.keep hW hK hk hG).up (Nat.le_succ N)⟩
  · rw [if_neg o] at h1 h2
    simp only [Prod.mk.injEq] at h1 h2
    obtain ⟨rfl, rfl, rfl⟩ := h1
    obtain ⟨rfl, rfl, rfl⟩ := h2
    exact ⟨rfl, hK.up (Nat.le_succ N)⟩
theorem Kep.at {k j : Nat} (hK : Kep P nq nd N kf kn mk ik) (hk : k < 2) (hj : j < 20) (h : ¬ ik k = nI 0) : mk (20 * k + j) = mp (loadF kf k) j :=
  (((hK.2 k hk).2 (Decidable.not_not.mp (fun q => h ((hK.2 k hk).1.mpr q)))).1 j hj)
theorem ag_step {r1 r2 a : Int32} {c1 c2 : Nat → Int32} {n1 n2 : Nat}
    (h1 : (r1, c1, n1) = if okS a then (if hasB kn (K a) then (loadF kf (K a) 1, loadF kf (K a), 0) else ((-3), c, n)) else ((-1), c, n))
    (h2 : (r2, c2, n2) = if okS a then (if ik (K a) = nI 0 then ((-3), c, n) else (loadF kf (K a) 1, loadF kf (K a), 0)) else ((-1), c, n))
    (hG : Good P nq nd N c) (hR : Ring P nq nd N f u n bk) (hK : Kep P nq nd N kf kn mk ik) :
    r1 = r2 ∧ c1 = c2 ∧ n1 = n2 ∧ Good P nq nd (N + 1) c1 ∧ Ring P nq nd (N + 1) f u n1 bk := by
  by_cases o : okS a
  · rw [if_pos o] at h1 h2
    obtain ⟨k, hk, rfl⟩ := inR_n (n := 2) (by decide) o
    rw [K_n (by omega)] at h1 h2
    have q := hK.2 k hk
    by_cases b : hasB kn k
    · rw [if_pos b] at h1
      rw [if_neg (fun w => q.1.mp w b)] at h2
      simp only [Prod.mk.injEq] at h1 h2
      obtain ⟨rfl, rfl, rfl⟩ := h1
      obtain ⟨rfl, rfl, rfl⟩ := h2
      exact ⟨rfl, rfl, rfl, (q.2 b).2.up (Nat.le_succ N), Ring.none hR.1⟩
    · rw [if_neg b] at h1
      rw [if_pos (q.1.mpr b)] at h2
      simp only [Prod.mk.injEq] at h1 h2
      obtain ⟨rfl, rfl, rfl⟩ := h1
      obtain ⟨rfl, rfl, rfl⟩ := h2
      exact ⟨rfl, rfl, rfl, hG.up (Nat.le_succ N), hR.up (Nat.le_succ N)⟩
  · rw [if_neg o] at h1 h2
    simp only [Prod.mk.injEq] at h1 h2
    obtain ⟨rfl, rfl, rfl⟩ := h1
    obtain ⟨rfl, rfl, rfl⟩ := h2
    exact ⟨rfl, rfl, rfl, hG.up (Nat.le_succ N), hR.up (Nat.le_succ N)⟩
theorem sh_step {tx pu pu1 pu2 : Nat → Nat} {tl np1 nq1 nd1 np2 nq2 nd2 n1 n2 : Nat} {P1 P2 : Nat → Nat → Nat} {r1 r2 ks1 : Int32} {c1 c2 ik2 : Nat → Int32}
    (h1 : ((rdA tx tl pu P).1 = (-9) → r1 = nI (100 * np1 + 10 * nq1 + nd1) ∧ (np1, nq1, nd1, pu1, P1) = (rdA tx tl pu P).2.2.2 ∧ c1 = beginF np1 (rdA tx tl pu P).2.1 pu1 ∧ n1 = 0 ∧ ks1 = nI 0) ∧ (¬ (rdA tx tl pu P).1 = (-9) → r1 = (-3) ∧ (np1, nq1, nd1, pu1, P1, c1, n1, ks1) = (np, nq, nd, pu, P, c, n, nI kn)))
    (h2 : ((rdA tx tl pu P).1 = (-9) → r2 = nI (100 * np2 + 10 * nq2 + nd2) ∧ (np2, nq2, nd2, pu2, P2) = (rdA tx tl pu P).2.2.2 ∧ c2 = beginF np2 (rdA tx tl pu P).2.1 pu2 ∧ n2 = 0 ∧ ik2 0 = nI 0 ∧ ik2 1 = nI 0) ∧ (¬ (rdA tx tl pu P).1 = (-9) → r2 = (-3) ∧ (np2, nq2, nd2, pu2, P2, c2, n2, ik2) = (np, nq, nd, pu, P, c, n, ik)))
    (hW : WFP np nq nd P) (hG : Good P nq nd N c) (hR : Ring P nq nd N f u n bk) (hK : Kep P nq nd N kf kn mk ik) :
    r1 = r2 ∧ np1 = np2 ∧ nq1 = nq2 ∧ nd1 = nd2 ∧ P1 = P2 ∧ c1 = c2 ∧ n1 = n2 ∧ ∃ k1, ks1 = nI k1 ∧ WFP np1 nq1 nd1 P1 ∧ Good P1 nq1 nd1 (N + 1) c1 ∧ Ring P1 nq1 nd1 (N + 1) f u n1 bk ∧ Kep P1 nq1 nd1 (N + 1) kf k1 mk ik2 := by
  by_cases y : (rdA tx tl pu P).1 = (-9)
  · obtain ⟨a1, a2, a3, a4, a5⟩ := h1.1 y
    obtain ⟨b1, b2, b3, b4, b5, b6⟩ := h2.1 y
    have e := a2.trans b2.symm
    simp only [Prod.mk.injEq] at e
    obtain ⟨e1, e2, e3, e4, e5⟩ := e
    have hrd : ((rdA tx tl pu P).2.1, (rdA tx tl pu P).2.2.1, np1, nq1, nd1, pu1, P1) = (rdA tx tl pu P).2 := by
      rw [a2]
    obtain ⟨hv, hW1, -⟩ := rdA_ok tx tl pu P hrd
    refine ⟨?_, e1, e2, e3, e5, ?_, by rw [a4, b4], 0, a5, hW1, ?_, ?_, ?_⟩
    · rw [a1, b1, e1, e2, e3]
    · rw [a3, b3, e1, e4]
    · rw [a3]; exact (good_begin P1 nq1 hW1.1.1 hv pu1).up (Nat.zero_le _)
    · rw [a4]; exact Ring.none hR.1
    · exact Kep.none (fun k hk => by rcases (show k = 0 ∨ k = 1 by omega) with rfl | rfl <;> assumption)
  · obtain ⟨a1, a2⟩ := h1.2 y
    obtain ⟨b1, b2⟩ := h2.2 y
    simp only [Prod.mk.injEq] at a2 b2
    obtain ⟨rfl, rfl, rfl, rfl, rfl, rfl, rfl, rfl⟩ := a2
    obtain ⟨rfl, rfl, rfl, rfl, rfl, rfl, rfl, rfl⟩ := b2
    exact ⟨by rw [a1, b1], rfl, rfl, rfl, rfl, rfl, rfl, kn, rfl, hW, hG.up (Nat.le_succ N), hR.up (Nat.le_succ N), hK.up (Nat.le_succ N)⟩
end ST
