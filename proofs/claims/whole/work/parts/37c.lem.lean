/-! what a text tells: not what was there before; a plan as it should be -/
def Kp (P0 : Nat → Nat → Nat) (nq nd : Nat) (P : Nat → Nat → Nat) : Prop := ∀ j k, ((j < 3 ∧ nq ≤ k) ∨ (3 ≤ j ∧ nd ≤ k)) → P j k = P0 j k
theorem rdT_cs (tx : Nat → Nat) (tl cur np nq nd : Nat) :
    (∃ cur2, ∀ pu P, rdT tx tl (cur, np, nq, nd, pu, P) = (false, cur2, np, nq, nd, pu, P)) ∨
    (np < 3 ∧ ∃ v, ∀ pu P, rdT tx tl (cur, np, nq, nd, pu, P) = (true, cur + 2, np + 1, nq, nd, up1 pu np v, P)) ∨
    (nq < 5 ∧ ∃ o w d, o < np ∧ 1 ≤ w ∧ w ≤ 9 ∧ d ≤ 3 ∧ ∀ pu P, rdT tx tl (cur, np, nq, nd, pu, P) = (true, cur + 4, np, nq + 1, nd, pu, addQ P nq o w d)) ∨
    (nd < 5 ∧ ∃ o w d, o < nq ∧ w ≤ 9 ∧ d ≤ 9 ∧ ∀ pu P, rdT tx tl (cur, np, nq, nd, pu, P) = (true, cur + 4, np, nq, nd + 1, pu, addD P nd o w d)) := by
  by_cases hp : tx cur = 80 ∧ np < 3
  · have e : ∀ pu P, rdT tx tl (cur, np, nq, nd, pu, P) = rdP tx tl (cur + 1, np, nq, nd, pu, P) := fun pu P => if_pos hp
    by_cases f : fig tx tl (cur + 1) 0 9
    · exact Or.inr (Or.inl ⟨hp.2, tx (cur + 1) - 48, fun pu P => (e pu P).trans (if_pos f)⟩)
    · exact Or.inl ⟨cur + 1, fun pu P => (e pu P).trans (if_neg f)⟩
  · by_cases hq : tx cur = 81 ∧ nq < 5 ∧ 0 < np
    · have e : ∀ pu P, rdT tx tl (cur, np, nq, nd, pu, P) = rdQ tx tl (cur + 1, np, nq, nd, pu, P) := fun pu P => (if_neg hp).trans (if_pos hq)
      by_cases f1 : fig tx tl (cur + 1) 0 (np - 1)
      · by_cases f2 : fig tx tl (cur + 1 + 1) 1 9
        · by_cases f3 : fig tx tl (cur + 1 + 2) 0 3
          · have h1 := f1.2; have h2 := f2.2; have h3 := f3.2
            exact Or.inr (Or.inr (Or.inl ⟨hq.2.1, tx (cur + 1) - 48, tx (cur + 1 + 1) - 48, tx (cur + 1 + 2) - 48, by omega, by omega, by omega, by omega, fun pu P => (e pu P).trans ((if_pos f1).trans ((if_pos f2).trans (if_pos f3)))⟩))
          · exact Or.inl ⟨_, fun pu P => (e pu P).trans ((if_pos f1).trans ((if_pos f2).trans (if_neg f3)))⟩
        · exact Or.inl ⟨_, fun pu P => (e pu P).trans ((if_pos f1).trans (if_neg f2))⟩
      · exact Or.inl ⟨_, fun pu P => (e pu P).trans (if_neg f1)⟩
    · by_cases hd : tx cur = 68 ∧ nd < 5 ∧ 0 < nq
      · have e : ∀ pu P, rdT tx tl (cur, np, nq, nd, pu, P) = rdD tx tl (cur + 1, np, nq, nd, pu, P) := fun pu P => (if_neg hp).trans ((if_neg hq).trans (if_pos hd))
        by_cases f1 : fig tx tl (cur + 1) 0 (nq - 1)
        · by_cases f2 : fig tx tl (cur + 1 + 1) 0 9
          · by_cases f3 : fig tx tl (cur + 1 + 2) 0 9
            · have h1 := f1.2; have h2 := f2.2; have h3 := f3.2
              exact Or.inr (Or.inr (Or.inr ⟨hd.2.1, tx (cur + 1) - 48, tx (cur + 1 + 1) - 48, tx (cur + 1 + 2) - 48, by omega, by omega, by omega, fun pu P => (e pu P).trans ((if_pos f1).trans ((if_pos f2).trans (if_pos f3)))⟩))
            · exact Or.inl ⟨_, fun pu P => (e pu P).trans ((if_pos f1).trans ((if_pos f2).trans (if_neg f3)))⟩
          · exact Or.inl ⟨_, fun pu P => (e pu P).trans ((if_pos f1).trans (if_neg f2))⟩
        · exact Or.inl ⟨_, fun pu P => (e pu P).trans (if_neg f1)⟩
      · exact Or.inl ⟨cur, fun pu P => (if_neg hp).trans ((if_neg hq).trans (if_neg hd))⟩
theorem addQ_at (P : Nat → Nat → Nat) (n o w d j k : Nat) : addQ P n o w d j k = if k = n ∧ j < 3 then (if j = 0 then o else if j = 1 then w else d) else P j k := by
  unfold addQ up2
  by_cases hk : k = n
  · by_cases h0 : j = 0
    · simp [hk, h0]
    · by_cases h1 : j = 1
      · simp [hk, h1]
      · by_cases h2 : j = 2
        · simp [hk, h2]
        · simp [hk, h0, h1, h2]; omega
  · simp [hk]
theorem addD_at (P : Nat → Nat → Nat) (n o w d j k : Nat) : addD P n o w d j k = if k = n ∧ 3 ≤ j ∧ j < 6 then (if j = 3 then o else if j = 4 then w else d) else P j k := by
  unfold addD up2
  by_cases hk : k = n
  · by_cases h0 : j = 3
    · simp [hk, h0]
    · by_cases h1 : j = 4
      · simp [hk, h1]
      · by_cases h2 : j = 5
        · simp [hk, h2]
        · simp [hk, h0, h1, h2]; omega
  · simp [hk]
theorem WFP_q {np nq nd : Nat} {P : Nat → Nat → Nat} (h : WFP np nq nd P) (hq : nq < 5) {o w d : Nat} (ho : o < np) (h1 : 1 ≤ w) (h9 : w ≤ 9) (hd : d ≤ 3) : WFP np (nq + 1) nd (addQ P nq o w d) := by
  obtain ⟨⟨a1, a2, a3⟩, a4, a5⟩ := h
  refine ⟨⟨a1, by omega, a3⟩, fun q hq2 => ?_, fun e he => ?_⟩
  · simp only [addQ_at]
    by_cases r : q = nq
    · simp [r]; omega
    · have := a4 q (by omega)
      simp [r]; exact this
  · have := a5 e he
    simp only [addQ_at]
    simp; omega
theorem WFP_d {np nq nd : Nat} {P : Nat → Nat → Nat} (h : WFP np nq nd P) (hq : nd < 5) {o w d : Nat} (ho : o < nq) (h9 : w ≤ 9) (hd : d ≤ 9) : WFP np nq (nd + 1) (addD P nd o w d) := by
  obtain ⟨⟨a1, a2, a3⟩, a4, a5⟩ := h
  refine ⟨⟨a1, a2, by omega⟩, fun q hq2 => ?_, fun e he => ?_⟩
  · have := a4 q hq2
    simp only [addD_at]
    simp; exact this
  · simp only [addD_at]
    by_cases r : e = nd
    · simp [r]; omega
    · have := a5 e (by omega)
      simp [r]; exact this
theorem Kp_q {P0 P : Nat → Nat → Nat} {nq nd : Nat} (h : Kp P0 nq nd P) (o w d : Nat) : Kp P0 (nq + 1) nd (addQ P nq o w d) := fun j k hjk => by
  rw [addQ_at, if_neg (by omega)]; exact h j k (by omega)
theorem Kp_d {P0 P : Nat → Nat → Nat} {nq nd : Nat} (h : Kp P0 nq nd P) (o w d : Nat) : Kp P0 nq (nd + 1) (addD P nd o w d) := fun j k hjk => by
  rw [addD_at, if_neg (by omega)]; exact h j k (by omega)
theorem WFP_p {np nq nd : Nat} {P : Nat → Nat → Nat} (h : WFP np nq nd P) (hp : np < 3) : WFP (np + 1) nq nd P :=
  ⟨⟨by omega, h.1.2.1, h.1.2.2⟩, fun q hq => ⟨by have := (h.2.1 q hq).1; omega, (h.2.1 q hq).2⟩, h.2.2⟩
theorem rdL_cs (tx : Nat → Nat) (tl : Nat) : ∀ (n cur np nq nd : Nat), ∃ (r : Int32) (cur2 np2 nq2 nd2 : Nat), ∀ pu P, ∃ pu2 P2, rdL tx tl n (cur, np, nq, nd, pu, P) = (r, cur2, np2, nq2, nd2, pu2, P2) ∧ (WFP np nq nd P → WFP np2 nq2 nd2 P2) ∧ (∀ P0, Kp P0 nq nd P → Kp P0 nq2 nd2 P2)
  | 0, cur, np, nq, nd => ⟨(-9), cur, np, nq, nd, fun pu P => ⟨pu, P, rfl, id, fun _ => id⟩⟩
  | n + 1, cur, np, nq, nd => by
    by_cases hc : cur < tl
    · have e1 : ∀ pu P s, rdT tx tl (cur, np, nq, nd, pu, P) = (true, s) → rdL tx tl (n + 1) (cur, np, nq, nd, pu, P) = rdL tx tl n s := fun pu P s h => by
        show (if cur < tl then (if (rdT tx tl (cur, np, nq, nd, pu, P)).1 = true then rdL tx tl n (rdT tx tl (cur, np, nq, nd, pu, P)).2 else _) else _) = _
        rw [if_pos hc, h]; rfl
      rcases rdT_cs tx tl cur np nq nd with ⟨cur2, h⟩ | ⟨hb, v, h⟩ | ⟨hb, o, w, d, h1, h2, h3, h4, h⟩ | ⟨hb, o, w, d, h1, h2, h3, h⟩
      · refine ⟨nI cur2, cur2, np, nq, nd, fun pu P => ⟨pu, P, ?_, id, fun _ => id⟩⟩
        show (if cur < tl then (if (rdT tx tl (cur, np, nq, nd, pu, P)).1 = true then _ else (nI (rdT tx tl (cur, np, nq, nd, pu, P)).2.1, (rdT tx tl (cur, np, nq, nd, pu, P)).2)) else _) = _
        rw [if_pos hc, h pu P]; rfl
      · obtain ⟨r, c2, n2, q2, d2, ih⟩ := rdL_cs tx tl n (cur + 2) (np + 1) nq nd
        refine ⟨r, c2, n2, q2, d2, fun pu P => ?_⟩
        obtain ⟨pu2, P2, i1, i2, i3⟩ := ih (up1 pu np v) P
        exact ⟨pu2, P2, (e1 pu P _ (h pu P)).trans i1, fun hW => i2 (WFP_p hW hb), i3⟩
      · obtain ⟨r, c2, n2, q2, d2, ih⟩ := rdL_cs tx tl n (cur + 4) np (nq + 1) nd
        refine ⟨r, c2, n2, q2, d2, fun pu P => ?_⟩
        obtain ⟨pu2, P2, i1, i2, i3⟩ := ih pu (addQ P nq o w d)
        exact ⟨pu2, P2, (e1 pu P _ (h pu P)).trans i1, fun hW => i2 (WFP_q hW hb h1 h2 h3 h4), fun P0 hk => i3 P0 (Kp_q hk o w d)⟩
      · obtain ⟨r, c2, n2, q2, d2, ih⟩ := rdL_cs tx tl n (cur + 4) np nq (nd + 1)
        refine ⟨r, c2, n2, q2, d2, fun pu P => ?_⟩
        obtain ⟨pu2, P2, i1, i2, i3⟩ := ih pu (addD P nd o w d)
        exact ⟨pu2, P2, (e1 pu P _ (h pu P)).trans i1, fun hW => i2 (WFP_d hW hb h1 h2 h3), fun P0 hk => i3 P0 (Kp_d hk o w d)⟩
    · refine ⟨(-9), cur, np, nq, nd, fun pu P => ⟨pu, P, ?_, id, fun _ => id⟩⟩
      show (if cur < tl then _ else ((-9 : Int32), (cur, np, nq, nd, pu, P))) = _
      rw [if_neg hc]
theorem WFP_0 (P : Nat → Nat → Nat) : WFP 0 0 0 P := ⟨⟨by omega, by omega, by omega⟩, fun q h => absurd h (Nat.not_lt_zero _), fun q h => absurd h (Nat.not_lt_zero _)⟩
theorem Kp_0 (P : Nat → Nat → Nat) (nq nd : Nat) : Kp P nq nd P := fun _ _ _ => rfl
theorem rdA_cs (tx : Nat → Nat) (tl : Nat) : ∃ (r : Int32) (v cur2 np2 nq2 nd2 : Nat), v ≤ 9 ∧ ∀ pu P, ∃ pu2 P2, rdA tx tl pu P = (r, v, cur2, np2, nq2, nd2, pu2, P2) ∧ WFP np2 nq2 nd2 P2 ∧ Kp P nq2 nd2 P2 := by
  by_cases h0 : 0 < tl ∧ tx 0 = 66
  · by_cases h1 : fig tx tl 1 0 9
    · obtain ⟨r, c2, n2, q2, d2, ih⟩ := rdL_cs tx tl 48 2 0 0 0
      refine ⟨r, tx 1 - 48, c2, n2, q2, d2, by have := h1.2; omega, fun pu P => ?_⟩
      obtain ⟨pu2, P2, i1, i2, i3⟩ := ih pu P
      refine ⟨pu2, P2, ?_, i2 (WFP_0 P), i3 P (Kp_0 P 0 0)⟩
      unfold rdA
      rw [if_pos h0, if_pos h1, i1]
    · refine ⟨nI 1, 0, 1, 0, 0, 0, by omega, fun pu P => ⟨pu, P, ?_, WFP_0 P, Kp_0 P 0 0⟩⟩
      unfold rdA
      rw [if_pos h0, if_neg h1]
  · refine ⟨nI 0, 0, 0, 0, 0, 0, by omega, fun pu P => ⟨pu, P, ?_, WFP_0 P, Kp_0 P 0 0⟩⟩
    unfold rdA
    rw [if_neg h0]
theorem rdA_ind (tx : Nat → Nat) (tl : Nat) (pu pv : Nat → Nat) (P R : Nat → Nat → Nat) : (rdA tx tl pu P).1 = (rdA tx tl pv R).1 := by
  obtain ⟨r, v, c2, n2, q2, d2, -, h⟩ := rdA_cs tx tl
  obtain ⟨x1, x2, e1, -, -⟩ := h pu P
  obtain ⟨y1, y2, e2, -, -⟩ := h pv R
  rw [e1, e2]
theorem rdA_ok (tx : Nat → Nat) (tl : Nat) (pu : Nat → Nat) (P : Nat → Nat → Nat) {v cur np nq nd : Nat} {pu2 : Nat → Nat} {P2 : Nat → Nat → Nat} (h : (v, cur, np, nq, nd, pu2, P2) = (rdA tx tl pu P).2) : v ≤ 9 ∧ WFP np nq nd P2 ∧ Kp P nq nd P2 := by
  obtain ⟨r, v', c2, n2, q2, d2, hv, k⟩ := rdA_cs tx tl
  obtain ⟨x1, x2, e1, e2, e3⟩ := k pu P
  rw [e1] at h
  simp only [Prod.mk.injEq] at h
  obtain ⟨rfl, rfl, rfl, rfl, rfl, rfl, rfl⟩ := h
  exact ⟨hv, e2, e3⟩
/-! the states that may come, and what is kept of them -/
def Good (P : Nat → Nat → Nat) (nq nd : Nat) (N : Nat) (c : Nat → Int32) : Prop :=
  ∃ t T : Nat, t ≤ N ∧ T ≤ 36 + 400 * N ∧ Fr P nd c t ∧ c 0 = nI T ∧ ∀ q, q < nq → c (5 + q) = nI 1 → ∃ s, s ≤ t ∧ c (10 + q) = nI s
theorem Good.up {P : Nat → Nat → Nat} {nq nd N M : Nat} {c : Nat → Int32} (h : Good P nq nd N c) (hm : N ≤ M) : Good P nq nd M c := by
  obtain ⟨t, T, h1, h2, h3⟩ := h
  exact ⟨t, T, by omega, by omega, h3⟩
theorem Good.cg {np nq nd N : Nat} {P : Nat → Nat → Nat} (hP : WFP np nq nd P) {c d : Nat → Int32} (h : Good P nq nd N c) (e : ∀ j, j < 20 → c j = d j) : Good P nq nd N d := by
  have h3 := hP.1
  obtain ⟨t, T, h1, h2, ⟨h4, h5⟩, h6, h7⟩ := h
  refine ⟨t, T, h1, h2, ⟨by rw [← e 1 (by decide)]; exact h4, fun j hj hp => by rw [← e (15 + j) (by omega)]; exact h5 j hj hp⟩, by rw [← e 0 (by decide)]; exact h6, fun q hq hs => ?_⟩
  rw [← e (5 + q) (by omega)] at hs
  rw [← e (10 + q) (by omega)]
  exact h7 q hq hs
theorem Good.fr {P : Nat → Nat → Nat} {nq nd N : Nat} {c : Nat → Int32} (h : Good P nq nd N c) : ∃ t, t ≤ N ∧ Fr P nd c t := by
  obtain ⟨t, T, h1, h2, h3, -⟩ := h
  exact ⟨t, h1, h3⟩
theorem Good.till {P : Nat → Nat → Nat} {nq nd N : Nat} {c : Nat → Int32} (h : Good P nq nd N c) : ∃ T, T ≤ 36 + 400 * N ∧ c 0 = nI T := by
  obtain ⟨t, T, h1, h2, h3, h4, -⟩ := h
  exact ⟨T, h2, h4⟩
section GOOD
variable {np nq nd N : Nat} {P : Nat → Nat → Nat} {c : Nat → Int32}
theorem good_begin (P : Nat → Nat → Nat) (nq : Nat) {np nd v : Nat} (h3 : np ≤ 3) (hv : v ≤ 9) (pu : Nat → Nat) : Good P nq nd 0 (beginF np v pu) := by
  have e : ∀ j, j ≠ 0 → ¬ (2 ≤ j ∧ j < 2 + np) → beginF np v pu j = nI 0 := fun j h1 h2 => by unfold beginF; rw [if_neg h1, if_neg h2]
  refine ⟨0, 4 * v, Nat.le_refl _, by omega, ⟨e 1 (by decide) (by omega), fun d hd hp => e _ (by omega) (by omega)⟩, rfl, fun q hq hs => ?_⟩
  rw [e _ (by omega) (by omega)] at hs
  exact absurd hs (by decide)
theorem good_pledge (hP : WFP np nq nd P) (h : Good P nq nd N c) (hN : N ≤ 1000) {k : Nat} (hk : k < nq) (hc : canP P c k) : Good P nq nd N (pledgeF P c k) := by
  have h3 := hP.1
  obtain ⟨t, T, h1, h2, h4, h5, h6⟩ := h
  obtain ⟨ho, hw1, hw9, -⟩ := hP.2.1 k hk
  have hle := hc.2
  rw [h5, nI_leI (by omega) (by omega)] at hle
  refine ⟨t, T - P 1 k, h1, by omega, Fr_pledge h4 (by omega) (by omega), by rw [pl_at0, h5, pk_sub hle], fun q hq hs => ?_⟩
  by_cases e : q = k
  · subst e
    exact ⟨t, Nat.le_refl _, by unfold pledgeF; rw [upd_self]; exact h4.1⟩
  · rw [pl_at5 (by omega) (by omega) e] at hs
    obtain ⟨s, s1, s2⟩ := h6 q hq hs
    refine ⟨s, s1, ?_⟩
    unfold pledgeF
    rw [upd_ne _ _ (by omega), upd_ne _ _ (by omega), upd_ne _ _ (by omega), payF_ne _ _ (by omega)]; exact s2
theorem owed_n (hP : WFP np nq nd P) (h : Good P nq nd N c) (hN : N ≤ 100) {k : Nat} (hk : k < nq) (h1 : c (5 + k) = nI 1) : ∃ o, o ≤ 400 ∧ owed P c k = nI o := by
  obtain ⟨t, T, g1, g2, g4, g5, g6⟩ := h
  obtain ⟨ho, hw1, hw9, -⟩ := hP.2.1 k hk
  obtain ⟨s, s1, s2⟩ := g6 k hk h1
  have e : c 1 - c (10 + k) = nI (t - s) := by rw [g4.1, s2, pk_sub s1]
  unfold owed
  rw [if_pos h1, e]
  unfold dueF
  split
  · exact ⟨P 1 k + 2 * (t - s), by omega, by rw [pk_mul, nI_add]⟩
  · split
    · split
      · exact ⟨P 1 k, by omega, rfl⟩
      · exact ⟨P 1 k + (t - s), by omega, by rw [nI_add]⟩
    · split
      · exact ⟨P 1 k, by omega, rfl⟩
      · exact ⟨P 1 k + (t - s), by omega, by rw [nI_add]⟩
theorem good_redeem (hP : WFP np nq nd P) (h : Good P nq nd N c) (hN : N ≤ 100) {k : Nat} (hk : k < nq) (hc : canR P c k) : Good P nq nd (N + 1) (redeemF P c k) := by
  have h3 := hP.1
  obtain ⟨o, ho4, eo⟩ := owed_n hP h hN hk hc.1
  obtain ⟨t, T, h1, h2, h4, h5, h6⟩ := h
  obtain ⟨ho, hw1, hw9, -⟩ := hP.2.1 k hk
  refine ⟨t, T + o, by omega, by omega, Fr_redeem h4 (by omega) (by omega), ?_, fun q hq hs => ?_⟩
  · unfold redeemF; rw [upd_ne _ _ (by omega), upd_self, h5, eo, nI_add]
  · by_cases e : q = k
    · subst e
      unfold redeemF at hs
      rw [upd_self] at hs
      exact absurd hs (by decide)
    · have e5 : redeemF P c k (5 + q) = c (5 + q) := by
        unfold redeemF; rw [upd_ne _ _ (by omega), upd_ne _ _ (by omega), payF_ne _ _ (by omega)]
      have e10 : redeemF P c k (10 + q) = c (10 + q) := by
        unfold redeemF; rw [upd_ne _ _ (by omega), upd_ne _ _ (by omega), payF_ne _ _ (by omega)]
      rw [e5] at hs
      rw [e10]
      exact h6 q hq hs
theorem good_pay (hP : WFP np nq nd P) (h : Good P nq nd N c) {k : Nat} (hk : k < np) (v : Int32) : Good P nq nd N (payF c k v) := by
  have h3 := hP.1
  obtain ⟨t, T, h1, h2, h4, h5, h6⟩ := h
  refine ⟨t, T, h1, h2, Fr_pay h4 (by omega), by rw [payF_ne _ _ (by omega)]; exact h5, fun q hq hs => ?_⟩
  rw [payF_ne _ _ (by omega)] at hs ⊢
  exact h6 q hq hs
theorem sellD_1 (c : Nat → Int32) (j : Nat) : ∀ q, sellD P c q (5 + j) = nI 1 → c (5 + j) = nI 1
  | 0, h => h
  | q + 1, h => by
    unfold sellD at h
    split at h
    · by_cases e : j = q
      · subst e; rw [upd_self] at h; exact absurd h (by decide)
      · rw [upd_ne _ _ (by omega)] at h; exact sellD_1 c j q h
    · exact sellD_1 c j q h
theorem good_day (hP : WFP np nq nd P) (h : Good P nq nd N c) (hN : N ≤ 1000) : Good P nq nd (N + 1) (passF P nq nd c) := by
  have h3 := hP.1
  obtain ⟨t, T, h1, h2, h4, h5, h6⟩ := h
  refine ⟨t + 1, T, by omega, by omega, Fr_pass hP h4 (by omega), ?_, fun q hq hs => ?_⟩
  · unfold passF; rw [sellD_ne P _ nq (by omega), upd_ne _ _ (by omega), dayD_day hP c (by omega) nd (Nat.le_refl _)]; exact h5
  · unfold passF at hs
    have hs := sellD_1 _ q nq hs
    rw [upd_ne _ _ (by omega), dayD_day hP c (by omega) nd (Nat.le_refl _)] at hs
    obtain ⟨s, s1, s2⟩ := h6 q hq hs
    refine ⟨s, by omega, ?_⟩
    unfold passF; rw [sellD_ne P _ nq (by omega), upd_ne _ _ (by omega), dayD_day hP c (by omega) nd (Nat.le_refl _)]; exact s2
end GOOD
/-! the ring of the one, the book of the other -/
def rix (u n i : Nat) : Nat := (u + 14 - n + i) % 14
def Ring (P : Nat → Nat → Nat) (nq nd N : Nat) (f : Nat → Int32) (u n : Nat) (bk : Nat → Int32) : Prop :=
  u < 14 ∧ n ≤ 14 ∧ ∀ i, i < n → (∀ j, j < 20 → bk (20 * i + j) = mp (loadF f (rix u n i)) j) ∧ Good P nq nd N (loadF f (rix u n i))
theorem piM_lt {j : Nat} (h : j < 20) : piM j < 20 := by
  unfold piM; repeat' split
  all_goals omega
theorem loadF_oth (f c : Nat → Int32) {k i j : Nat} (h : i ≠ k) (hj : j < 20) : loadF (saveF f c k) i j = loadF f i j := by
  unfold loadF saveF; rw [if_neg (by omega)]
theorem rix_last {u n : Nat} (hu : u < 14) (hn : n ≤ 14) (h0 : 0 < n) : rix u n (n - 1) = ringD u := by
  unfold rix ringD; split <;> omega
theorem rix_back {u n i : Nat} (hu : u < 14) (hn : n ≤ 14) (hi : i < n - 1) : rix (ringD u) (n - 1) i = rix u n i := by
  unfold rix ringD; split <;> omega
theorem Ring.undo {P : Nat → Nat → Nat} {nq nd N : Nat} {f bk : Nat → Int32} {u n : Nat} (h : Ring P nq nd N f u n bk) (h0 : 0 < n) : Ring P nq nd N f (ringD u) (n - 1) bk ∧ (∀ j, j < 20 → bk (20 * (n - 1) + j) = mp (loadF f (ringD u)) j) ∧ Good P nq nd N (loadF f (ringD u)) := by
  obtain ⟨hu, hn, hh⟩ := h
  have hl := hh (n - 1) (by omega)
  rw [rix_last hu hn h0] at hl
  refine ⟨⟨ringD_lt hu, by omega, fun i hi => ?_⟩, hl.1, hl.2⟩
  rw [rix_back hu hn hi]
  exact hh i (by omega)
theorem Ring.none {P : Nat → Nat → Nat} {nq nd N : Nat} {f bk : Nat → Int32} {u : Nat} (hu : u < 14) : Ring P nq nd N f u 0 bk := ⟨hu, by omega, fun i hi => absurd hi (Nat.not_lt_zero _)⟩
theorem Ring.up {P : Nat → Nat → Nat} {nq nd N M : Nat} {f bk : Nat → Int32} {u n : Nat} (h : Ring P nq nd N f u n bk) (hm : N ≤ M) : Ring P nq nd M f u n bk :=
  ⟨h.1, h.2.1, fun i hi => ⟨(h.2.2 i hi).1, (h.2.2 i hi).2.up hm⟩⟩
theorem rix_new {u n : Nat} (hu : u < 14) (hn : n ≤ 14) : rix (ringU u) (ringN n) (ringN n - 1) = u := by
  unfold rix ringU ringN; repeat' split
  all_goals omega
theorem rix_old {u n i : Nat} (hu : u < 14) (hn : n < 14) (hi : i < n) : rix (ringU u) (n + 1) i = rix u n i ∧ rix u n i ≠ u := by
  unfold rix ringU
  constructor
  · split <;> omega
  · omega
theorem rix_full {u i : Nat} (hu : u < 14) (hi : i < 13) : rix (ringU u) 14 i = rix u 14 (i + 1) ∧ rix u 14 (i + 1) ≠ u := by
  unfold rix ringU
  constructor
  · split <;> omega
  · omega
theorem Ring.note {np nq nd N : Nat} {P : Nat → Nat → Nat} (hP : WFP np nq nd P) {f bk c : Nat → Int32} {u n : Nat} (h : Ring P nq nd N f u n bk) (hg : Good P nq nd N c) : Ring P nq nd N (saveF f c u) (ringU u) (ringN n) (bkN bk n c) := by
  obtain ⟨hu, hn, hh⟩ := h
  have key : ∀ i, i < ringN n - 1 → ∃ i0, i0 < n ∧ (∀ j, j < 20 → bkN bk n c (20 * i + j) = bk (20 * i0 + j)) ∧ rix (ringU u) (ringN n) i = rix u n i0 ∧ rix u n i0 ≠ u := fun i hi => by
    by_cases q : n < 14
    · have e : ringN n = n + 1 := by unfold ringN; rw [if_pos q]
      rw [e] at hi ⊢
      have r := rix_old hu q (i := i) (by omega)
      refine ⟨i, by omega, fun j hj => ?_, r.1, r.2⟩
      unfold bkN baB saveF
      rw [if_neg (by omega), if_neg (by omega)]
    · have en : n = 14 := by omega
      subst en
      have e : ringN 14 = 14 := rfl
      rw [e] at hi ⊢
      have r := rix_full hu (i := i) (by omega)
      refine ⟨i + 1, by omega, fun j hj => ?_, r.1, r.2⟩
      unfold bkN baB saveF
      rw [e, if_neg (by omega), if_pos rfl]
      unfold shB
      rw [if_pos (by omega)]
      congr 1; omega
  have hN : 0 < ringN n ∧ ringN n ≤ 14 := by unfold ringN; split <;> omega
  refine ⟨ringU_lt, hN.2, fun i hi => ?_⟩
  by_cases q : i = ringN n - 1
  · subst q
    rw [rix_new hu hn]
    refine ⟨fun j hj => ?_, Good.cg hP hg (fun j hj => (loadF_save f c u j hj).symm)⟩
    have e1 : bkN bk n c (20 * (ringN n - 1) + j) = mp c j := by
      unfold bkN saveF; rw [if_pos (by omega), Nat.add_sub_cancel_left]
    rw [e1]
    exact (loadF_save f c u (piM j) (piM_lt hj)).symm
  · obtain ⟨i0, a1, a2, a3, a4⟩ := key i (by omega)
    have h0 := hh i0 a1
    rw [a3]
    refine ⟨fun j hj => ?_, Good.cg hP h0.2 (fun j hj => (loadF_oth f c a4 hj).symm)⟩
    rw [a2 j hj, h0.1 j hj]
    exact (loadF_oth f c a4 (piM_lt hj)).symm
/-! slots -/
def Kep (P : Nat → Nat → Nat) (nq nd N : Nat) (kf : Nat → Int32) (kn : Nat) (mk ik : Nat → Int32) : Prop :=
  kn < 4 ∧ ∀ k, k < 2 → (ik k = nI 0 ↔ ¬ hasB kn k) ∧ (hasB kn k → (∀ j, j < 20 → mk (20 * k + j) = mp (loadF kf k) j) ∧ Good P nq nd N (loadF kf k))
theorem Kep.up {P : Nat → Nat → Nat} {nq nd N M : Nat} {kf mk ik : Nat → Int32} {kn : Nat} (h : Kep P nq nd N kf kn mk ik) (hm : N ≤ M) : Kep P nq nd M kf kn mk ik :=
  ⟨h.1, fun k hk => ⟨(h.2 k hk).1, fun q => ⟨((h.2 k hk).2 q).1, ((h.2 k hk).2 q).2.up hm⟩⟩⟩
theorem hb4 : ∀ n, n < 4 → ∀ k, k < 2 → (n ||| 2 ^ k < 4 ∧ ∀ i, i < 2 → (hasB (n ||| 2 ^ k) i ↔ (hasB n i ∨ i = k))) := by decide +kernel
theorem hb0 : ∀ k, k < 2 → ¬ hasB 0 k := by decide +kernel
theorem Kep.none {P : Nat → Nat → Nat} {nq nd N : Nat} {kf mk ik : Nat → Int32} (h : ∀ k, k < 2 → ik k = nI 0) : Kep P nq nd N kf 0 mk ik :=
  ⟨by decide, fun k hk => ⟨⟨fun _ => hb0 k hk, fun _ => h k hk⟩, fun q => absurd q (hb0 k hk)⟩⟩
theorem Kep.keep {np nq nd N : Nat} {P : Nat → Nat → Nat} (hP : WFP np nq nd P) {kf mk ik c : Nat → Int32} {kn k : Nat} (h : Kep P nq nd N kf kn mk ik) (hk : k < 2) (hg : Good P nq nd N c) : Kep P nq nd N (saveF kf c k) (kn ||| 2 ^ k) (saveF mk (mp c) k) (upd ik k (nI 1)) := by
  obtain ⟨hn, hh⟩ := h
  obtain ⟨b1, b2⟩ := hb4 kn hn k hk
  refine ⟨b1, fun i hi => ?_⟩
  rw [b2 i hi]
  by_cases e : i = k
  · subst e
    refine ⟨⟨fun w => by rw [upd_self] at w; exact absurd w (by decide), fun w => absurd (Or.inr rfl) w⟩, fun _ => ⟨fun j hj => ?_, Good.cg hP hg (fun j hj => (loadF_save kf c i j hj).symm)⟩⟩
    have e1 : saveF mk (mp c) i (20 * i + j) = mp c j := by unfold saveF; rw [if_pos (by omega), Nat.add_sub_cancel_left]
    rw [e1]
    exact (loadF_save kf c i (piM j) (piM_lt hj)).symm
  · obtain ⟨x1, x2⟩ := hh i hi
    refine ⟨?_, fun w => ?_⟩
    · rw [upd_ne _ _ e, x1]
      constructor
      · intro q r; rcases r with r | r
        · exact q r
        · exact e r
      · intro q r; exact q (Or.inl r)
    · have w : hasB kn i := w.resolve_right e
      obtain ⟨y1, y2⟩ := x2 w
      refine ⟨fun j hj => ?_, Good.cg hP y2 (fun j hj => (loadF_oth kf c e hj).symm)⟩
      have e1 : saveF mk (mp c) k (20 * i + j) = mk (20 * i + j) := by unfold saveF; rw [if_neg (by omega)]
      rw [e1, y1 j hj]
      exact (loadF_oth kf c e (piM_lt hj)).symm
/-- the reference's new page -/
theorem begin_mp {np v : Nat} (h3 : np ≤ 3) (pu : Nat → Nat) {j : Nat} (hj : j < 20) : mp (beginF np v pu) j = if j = 0 then nI (4 * v) else if 1 ≤ j ∧ j < 1 + np then nI (pu (j - 1)) else nI 0 := by
  show beginF np v pu (piM j) = _
  unfold beginF
  by_cases h0 : j = 0
  · subst h0; rfl
  · rw [if_neg h0]
    by_cases h1 : 1 ≤ j ∧ j < 1 + np
    · have e : piM j = j + 1 := by unfold piM; rw [if_neg h0, if_neg (by omega), if_pos (by omega)]
      rw [e, if_neg (by omega), if_pos (by omega), if_pos h1]; rfl
    · rw [if_neg h1]
      by_cases h19 : j = 19
      · subst h19; rfl
      · by_cases hl : j < 19
        · have e : piM j = j + 1 := by unfold piM; rw [if_neg h0, if_neg h19, if_pos hl]
          rw [e, if_neg (by omega), if_neg (by omega)]
        · omega
theorem if_s {k q : Nat} {a b : Int32} (h : k ≠ q) : (if k < q + 1 then a else b) = (if k < q then a else b) := by
  by_cases r : k < q
  · rw [if_pos r, if_pos (by omega)]
  · rw [if_neg r, if_neg (by omega)]
