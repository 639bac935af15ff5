/-! the text as it is read: tx its bytes, tl its length -/
abbrev fig (tx : Nat → Nat) (tl cur lo hi : Nat) : Prop := cur < tl ∧ 48 + lo ≤ tx cur ∧ tx cur ≤ 48 + hi
def figV (tx : Nat → Nat) (tl cur lo hi : Nat) : Int32 := if fig tx tl cur lo hi then nI (tx cur - 48) else (-1)
def figW (tx : Nat → Nat) (tl cur lo hi : Nat) : Int32 := if fig tx tl cur lo hi then nI (tx cur - 48) else (-9)
def figC (tx : Nat → Nat) (tl cur lo hi : Nat) : Nat := if fig tx tl cur lo hi then cur + 1 else cur
theorem figV_t {tx : Nat → Nat} {tl cur lo hi : Nat} (h : nI 0 ≤ figV tx tl cur lo hi) : fig tx tl cur lo hi := by
  by_cases q : fig tx tl cur lo hi
  · exact q
  · unfold figV at h; rw [if_neg q] at h; exact absurd h (by decide +kernel)
theorem figV_f {tx : Nat → Nat} {tl cur lo hi : Nat} (ht : ∀ k, tx k < 256) (h : ¬ nI 0 ≤ figV tx tl cur lo hi) : ¬ fig tx tl cur lo hi := by
  intro q
  unfold figV at h; rw [if_pos q] at h
  have := ht cur
  exact h (nI_le (by omega) (by omega))
theorem figV_e {tx : Nat → Nat} {tl cur lo hi : Nat} (h : fig tx tl cur lo hi) : figV tx tl cur lo hi = nI (tx cur - 48) := if_pos h
theorem figV_n {tx : Nat → Nat} {tl cur lo hi : Nat} (h : ¬ fig tx tl cur lo hi) : figV tx tl cur lo hi = (-1) := if_neg h
theorem figW_e {tx : Nat → Nat} {tl cur lo hi : Nat} (h : fig tx tl cur lo hi) : figW tx tl cur lo hi = nI (tx cur - 48) := if_pos h
theorem figW_n {tx : Nat → Nat} {tl cur lo hi : Nat} (h : ¬ fig tx tl cur lo hi) : figW tx tl cur lo hi = (-9) := if_neg h
theorem figC_e {tx : Nat → Nat} {tl cur lo hi : Nat} (h : fig tx tl cur lo hi) : figC tx tl cur lo hi = cur + 1 := if_pos h
theorem figC_n {tx : Nat → Nat} {tl cur lo hi : Nat} (h : ¬ fig tx tl cur lo hi) : figC tx tl cur lo hi = cur := if_neg h
theorem nI_ne9 {k : Nat} (h : k < 2 ^ 31) : ¬ nI k = (-9) := fun q => by
  have := congrArg Int32.toInt q
  rw [nI_toInt h] at this
  have e : (-9 : Int32).toInt = -9 := by decide +kernel
  rw [e] at this; omega
theorem nI_ne1 {k : Nat} (h : k < 2 ^ 31) : ¬ nI k = (-1) := fun q => by
  have := congrArg Int32.toInt q
  rw [nI_toInt h] at this
  have e : (-1 : Int32).toInt = -1 := by decide +kernel
  rw [e] at this; omega
theorem figW_t {tx : Nat → Nat} {tl cur lo hi : Nat} (h : ¬ figW tx tl cur lo hi = (-9)) : fig tx tl cur lo hi := by
  by_cases q : fig tx tl cur lo hi
  · exact q
  · exact absurd (figW_n q) h
theorem figW_f {tx : Nat → Nat} {tl cur lo hi : Nat} (ht : ∀ k, tx k < 256) (h : figW tx tl cur lo hi = (-9)) : ¬ fig tx tl cur lo hi := by
  intro q
  rw [figW_e q] at h
  have := ht cur
  exact nI_ne9 (by omega) h
/-- a row of naturals, and rows of them, with one place changed -/
def up1 (f : Nat → Nat) (i v : Nat) : Nat → Nat := fun k => if k = i then v else f k
def up2 (P : Nat → Nat → Nat) (i j v : Nat) : Nat → Nat → Nat := fun a b => if a = i then (if b = j then v else P a b) else P a b
theorem up1_row (f : Nat → Nat) (i v : Nat) : upd (fun k => nI (f k)) i (nI v) = fun k => nI (up1 f i v k) := by
  funext k; by_cases h : k = i <;> simp [upd, up1, h]
theorem up2_row (P : Nat → Nat → Nat) (i j v : Nat) : upd (fun k => nI (P i k)) j (nI v) = fun k => nI (up2 P i j v i k) := by
  funext k; by_cases h : k = j <;> simp [upd, up2, h]
theorem up2_ne (P : Nat → Nat → Nat) {i j v a : Nat} (h : a ≠ i) : (fun k => nI (up2 P i j v a k)) = fun k => nI (P a k) := by
  funext k; simp [up2, h]
/-- place, persons, qualities, deeds, purses, the rows -/
abbrev PS : Type := Nat × Nat × Nat × Nat × (Nat → Nat) × (Nat → Nat → Nat)
def addQ (P : Nat → Nat → Nat) (k o w d : Nat) : Nat → Nat → Nat := up2 (up2 (up2 P 0 k o) 1 k w) 2 k d
def addD (P : Nat → Nat → Nat) (k o w d : Nat) : Nat → Nat → Nat := up2 (up2 (up2 P 3 k o) 4 k w) 5 k d
def rdP (tx : Nat → Nat) (tl : Nat) : PS → Bool × PS := fun (cur, np, nq, nd, pu, P) =>
  if fig tx tl cur 0 9 then (true, cur + 1, np + 1, nq, nd, up1 pu np (tx cur - 48), P) else (false, cur, np, nq, nd, pu, P)
def rdQ (tx : Nat → Nat) (tl : Nat) : PS → Bool × PS := fun (cur, np, nq, nd, pu, P) =>
  if fig tx tl cur 0 (np - 1) then (if fig tx tl (cur + 1) 1 9 then (if fig tx tl (cur + 2) 0 3 then (true, cur + 3, np, nq + 1, nd, pu, addQ P nq (tx cur - 48) (tx (cur + 1) - 48) (tx (cur + 2) - 48)) else (false, cur + 2, np, nq, nd, pu, P)) else (false, cur + 1, np, nq, nd, pu, P)) else (false, cur, np, nq, nd, pu, P)
def rdD (tx : Nat → Nat) (tl : Nat) : PS → Bool × PS := fun (cur, np, nq, nd, pu, P) =>
  if fig tx tl cur 0 (nq - 1) then (if fig tx tl (cur + 1) 0 9 then (if fig tx tl (cur + 2) 0 9 then (true, cur + 3, np, nq, nd + 1, pu, addD P nd (tx cur - 48) (tx (cur + 1) - 48) (tx (cur + 2) - 48)) else (false, cur + 2, np, nq, nd, pu, P)) else (false, cur + 1, np, nq, nd, pu, P)) else (false, cur, np, nq, nd, pu, P)
def rdT (tx : Nat → Nat) (tl : Nat) : PS → Bool × PS := fun (cur, np, nq, nd, pu, P) =>
  if tx cur = 80 ∧ np < 3 then rdP tx tl (cur + 1, np, nq, nd, pu, P)
  else if tx cur = 81 ∧ nq < 5 ∧ 0 < np then rdQ tx tl (cur + 1, np, nq, nd, pu, P)
  else if tx cur = 68 ∧ nd < 5 ∧ 0 < nq then rdD tx tl (cur + 1, np, nq, nd, pu, P)
  else (false, cur, np, nq, nd, pu, P)
def rdL (tx : Nat → Nat) (tl : Nat) : Nat → PS → Int32 × PS
  | 0, s => ((-9), s)
  | n + 1, s => if s.1 < tl then (if (rdT tx tl s).1 = true then rdL tx tl n (rdT tx tl s).2 else (nI (rdT tx tl s).2.1, (rdT tx tl s).2)) else ((-9), s)
/-- the fault (or NONE); then the till's figure and what is told -/
def rdA (tx : Nat → Nat) (tl : Nat) (pu : Nat → Nat) (P : Nat → Nat → Nat) : Int32 × Nat × PS :=
  if 0 < tl ∧ tx 0 = 66 then (if fig tx tl 1 0 9 then ((rdL tx tl 48 (2, 0, 0, 0, pu, P)).1, tx 1 - 48, (rdL tx tl 48 (2, 0, 0, 0, pu, P)).2) else (nI 1, 0, 1, 0, 0, 0, pu, P)) else (nI 0, 0, 0, 0, 0, 0, pu, P)
theorem rdT_bd {tx : Nat → Nat} {tl cur np nq nd : Nat} {pu : Nat → Nat} {P : Nat → Nat → Nat} (hc : cur < tl) (h1 : np ≤ 3) (h2 : nq ≤ 5) (h3 : nd ≤ 5) {cur2 np2 nq2 nd2 : Nat} {pu2 : Nat → Nat} {P2 : Nat → Nat → Nat} (h : (cur2, np2, nq2, nd2, pu2, P2) = (rdT tx tl (cur, np, nq, nd, pu, P)).2) : cur ≤ cur2 ∧ cur2 ≤ tl ∧ np2 ≤ 3 ∧ nq2 ≤ 5 ∧ nd2 ≤ 5 ∧ ((rdT tx tl (cur, np, nq, nd, pu, P)).1 = true → cur + 2 ≤ cur2) := by
  unfold rdT rdP rdQ rdD at h ⊢
  dsimp only at h ⊢
  repeat' split at h
  all_goals (simp only [Prod.mk.injEq] at h; obtain ⟨rfl, rfl, rfl, rfl, -, -⟩ := h; simp only [*, if_true, if_false, and_self, and_true, true_and, false_and, and_false]; simp; omega)
