theorem plA_none {P : Nat → Nat → Nat} {z : Nat} {c : Nat → Int32} {i : Nat} (h : plA P z c i = none) : ∀ j, i ≤ j → plA P z c j = none := by
  intro j hj
  induction hj with
  | refl => exact h
  | @step m _ ih =>
    show (match plA P z c m with | none => none | some g => _) = none
    rw [ih]
theorem pop5_le5 (z : Nat) : pop5 z ≤ 5 := by
  have a : ∀ x : Nat, x &&& 1 ≤ 1 := fun x => Nat.and_le_right
  have h1 := a z; have h2 := a (z / 2); have h3 := a (z / 4); have h4 := a (z / 8); have h5 := a (z / 16)
  unfold pop5; omega
theorem ifPl_le {P : Nat → Nat → Nat} {nq nd : Nat} {c : Nat → Int32} {k z : Nat} {v : Int32} {d : Nat} (h : ifPl P nq nd c k z v = some d) : d ≤ 5 := by
  unfold ifPl at h
  split at h
  · split at h
    · cases h
    · split at h
      · injection h with h
        rw [← h]; exact pop5_le5 _
      · cases h
  · cases h
theorem raF_lt {P : Nat → Nat → Nat} {nq nd : Nat} {c : Nat → Int32} {k : Nat} {v : Int32} : ∀ s {b m : Nat}, raF P nq nd c k v s = some (b, m) → b < s ∧ m ≤ 5
  | 0, b, m, h => by cases h
  | s + 1, b, m, h => by
    unfold raF at h
    split at h
    · have := raF_lt s h; exact ⟨by omega, this.2⟩
    · rename_i d hd
      have hd5 := ifPl_le hd
      split at h
      · injection h with h; injection h with h1 h2; exact ⟨by omega, by omega⟩
      · rename_i b2 m2 hb
        have := raF_lt s hb
        split at h <;> (injection h with h; injection h with h1 h2; exact ⟨by omega, by omega⟩)
def bestF (P : Nat → Nat → Nat) (nq : Nat) (c : Nat → Int32) (a : Int32) : Nat → Int32 := match dear P c a nq with
  | none => c
  | some d => tryP P c d
def pairF (P : Nat → Nat → Nat) (nq : Nat) (c : Nat → Int32) (a b q : Nat) : Nat → Int32 :=
  if q &&& 1 ≠ 0 then bestF P nq (if q &&& 2 ≠ 0 then bestF P nq c (nI a) else c) (nI b) else (if q &&& 2 ≠ 0 then bestF P nq c (nI a) else c)
def gainF (P : Nat → Nat → Nat) (nq nd : Nat) (c : Nat → Int32) (w a b q : Nat) : Int32 :=
  pairF P nq c a b q (2 + w) - nI (5 * pop5 (deedsB nd P (nI w) &&& (31 - deedsThat nd (passN P nq nd (pairF P nq c a b q) 20) (nI 1))))
theorem nandB : ∀ z, z < 32 → ∀ w, w < 32 → nI z &&& (nI w ^^^ (-1)) = nI (z &&& (31 - w)) := by decide +kernel
def wtF (z w x : Nat) : Nat → Nat
  | 0 => 1
  | q + 1 => wtF z w x q * (if hasB w q then (if hasB z q then x else 10 - x) else 1)
def fracR (o w ub : Nat) : Nat := if ub ≠ 0 then o / Nat.gcd w o else w / Nat.gcd w o
def eub (x y i : Nat) : Prop := x ≤ 100000 ∧ y ≤ 100000 ∧ 0 < x ∧ (1 ≤ i → y < x) ∧ x * y * 2 ^ (i - 1) ≤ 10000000000
theorem eub_0 {w o : Nat} (hw : w ≤ 100000) (ho : o ≤ 100000) (h0 : 0 < w) : eub w o 0 := by
  refine ⟨hw, ho, h0, fun h => absurd h (by omega), ?_⟩
  have := Nat.mul_le_mul hw ho
  simpa using this
theorem eub_b {x y i : Nat} (h : eub x y i) : x ≤ 100000 ∧ y ≤ 100000 ∧ 0 < x := ⟨h.1, h.2.1, h.2.2.1⟩
theorem eub_s {x y i : Nat} (h : eub x y i) (hy : 0 < y) : eub y (x % y) (i + 1) := by
  obtain ⟨h1, h2, h3, h4, h5⟩ := h
  have hm := Nat.mod_lt x hy
  refine ⟨h2, by omega, hy, fun _ => hm, ?_⟩
  rcases Nat.eq_zero_or_pos i with q | q
  · subst q
    have : y * (x % y) ≤ 100000 * 100000 := Nat.mul_le_mul h2 (by omega)
    simpa using this
  · have hyx := h4 q
    have hx : x = y * (x / y) + x % y := (Nat.div_add_mod x y).symm
    have hd : 1 ≤ x / y := (Nat.one_le_div_iff hy).mpr (by omega)
    have h6 : y ≤ y * (x / y) := Nat.le_mul_of_pos_right y hd
    have h7 : 2 * (x % y) ≤ x := by omega
    obtain ⟨j, rfl⟩ : ∃ j, i = j + 1 := ⟨i - 1, by omega⟩
    rw [Nat.add_sub_cancel] at h5 ⊢
    calc y * (x % y) * 2 ^ (j + 1) = (y * 2 ^ j) * (2 * (x % y)) := by rw [Nat.pow_succ]; simp only [Nat.mul_assoc, Nat.mul_comm, Nat.mul_left_comm]
      _ ≤ (y * 2 ^ j) * x := Nat.mul_le_mul_left _ h7
      _ = x * y * 2 ^ j := by simp only [Nat.mul_assoc, Nat.mul_comm, Nat.mul_left_comm]
      _ ≤ 10000000000 := h5
theorem eub_e {x y i : Nat} (h : eub x y i) (hi : 48 ≤ i) : y = 0 := by
  obtain ⟨h1, h2, h3, h4, h5⟩ := h
  rcases Nat.eq_zero_or_pos y with q | q
  · exact q
  · have : 1 * 1 ≤ x * y := Nat.mul_le_mul h3 q
    have h6 : 2 ^ 47 ≤ 2 ^ (i - 1) := Nat.pow_le_pow_right (by decide) (by omega)
    have h7 : 1 * 2 ^ 47 ≤ x * y * 2 ^ (i - 1) := Nat.mul_le_mul (by omega) h6
    omega
theorem eu_gcd {x y : Nat} (hy : 0 < y) : Nat.gcd y (x % y) = Nat.gcd x y := by
  rw [Nat.gcd_comm x y, Nat.gcd_rec y x, Nat.gcd_comm]
