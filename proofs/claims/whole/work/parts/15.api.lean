/-! what each call answers, by the mathematical shop; K is an argument as a place -/
abbrev K (a : Int32) : Nat := a.toNatClampNeg
theorem K_n {k : Nat} (h : k < 2 ^ 31) : K (nI k) = k := nI_clamp h
abbrev okN (a : Int32) : Prop := nI 0 ≤ a ∧ a ≤ nI 20
abbrev okC (a : Int32) : Prop := nI 0 ≤ a ∧ a ≤ nI 1
abbrev okL (a : Int32) : Prop := nI 0 ≤ a ∧ a ≤ nI 255
theorem ok_n {a : Int32} {M : Nat} (hM : M < 2 ^ 30) (h : nI 0 ≤ a ∧ a ≤ nI M) : ∃ k : Nat, k ≤ M ∧ a = nI k := by
  have h2 : a < nI (M + 1) := by
    have q := h.2
    rw [Int32.le_iff_toInt_le, nI_toInt (by omega)] at q
    rw [Int32.lt_iff_toInt_lt, nI_toInt (by omega)]
    omega
  obtain ⟨j, h1, e⟩ := inR_n (n := M + 1) (a := a) (by omega) ⟨h.1, h2⟩
  exact ⟨j, by omega, e⟩
theorem ok_k {k M : Nat} (hM : M < 2 ^ 30) (h : k ≤ M) : nI 0 ≤ nI k ∧ nI k ≤ nI M := ⟨nI_le (by omega) (by omega), nI_le h (by omega)⟩
-- the shop
def wrR (tl : Nat) (a : Int32) : Int32 := if okL a then (if tl < 48 then nI (tl + 1) else (-4)) else (-2)
def wrX (tx : Nat → Nat) (tl : Nat) (a : Int32) : Nat → Nat := if okL a then (if tl < 48 then up1 tx tl (K a) else tx) else tx
def wrL (tl : Nat) (a : Int32) : Nat := if okL a then (if tl < 48 then tl + 1 else tl) else tl
def aboutR (np nq nd : Nat) (c : Nat → Int32) (cnt na tl : Nat) (w : Int32) : Int32 :=
  if w = nI 0 then nI np else if w = nI 1 then nI nq else if w = nI 2 then nI nd else if w = nI 3 then c 1 else if w = nI 4 then c 0
  else if w = nI 5 then nI (thatAre nq c (nI 0)) else if w = nI 6 then nI (thatAre nq c (nI 1)) else if w = nI 7 then nI (thatAre nq c (nI 2))
  else if w = nI 8 then nI (deedsThat nd c (nI 1)) else if w = nI 9 then nI (deedsThat nd c (nI 2)) else if w = nI 10 then nI cnt else if w = nI 11 then nI na else if w = nI 12 then nI tl else (-2)
def personR (np nq nd : Nat) (P : Nat → Nat → Nat) (c : Nat → Int32) (a w : Int32) : Int32 :=
  if inR a np then (if w = nI 0 then c (2 + K a) else if w = nI 1 then nI (ownB nq P a) else if w = nI 2 then nI (deedsB nd P a) else (-2)) else (-1)
def qualityR (nq : Nat) (P : Nat → Nat → Nat) (c : Nat → Int32) (a w : Int32) : Int32 :=
  if inR a nq then (if w = nI 0 then nI (P 0 (K a)) else if w = nI 1 then nI (P 1 (K a)) else if w = nI 2 then nI (P 2 (K a)) else if w = nI 3 then c (5 + K a)
    else if w = nI 4 then (if c (5 + K a) = nI 1 then c (10 + K a) else (-9)) else if w = nI 5 then owed P c (K a) else (-2)) else (-1)
def deedR (nd : Nat) (P : Nat → Nat → Nat) (c : Nat → Int32) (a w : Int32) : Int32 :=
  if inR a nd then (if w = nI 0 then nI (P 3 (K a)) else if w = nI 1 then nI (P 4 (K a)) else if w = nI 2 then nI (P 5 (K a)) else if w = nI 3 then c (15 + K a) else (-2)) else (-1)
-- days to come
def dueR (nq nd : Nat) (P : Nat → Nat → Nat) (c : Nat → Int32) (a b : Int32) : Int32 := if inR a nq then (if okN b then owed P (passN P nq nd c (K b)) (K a) else (-2)) else (-1)
def doneR (nq nd : Nat) (P : Nat → Nat → Nat) (c : Nat → Int32) (b : Int32) : Int32 := if okN b then nI (deedsThat nd (passN P nq nd c (K b)) (nI 1)) else (-2)
def coinsR (np nq nd : Nat) (P : Nat → Nat → Nat) (c : Nat → Int32) (a b : Int32) : Int32 := if inR a np then (if okN b then passN P nq nd c (K b) (2 + K a) else (-2)) else (-1)
/-- how many of five -/
def pop5 (z : Nat) : Nat := (z &&& 1) + (z / 2 &&& 1) + (z / 4 &&& 1) + (z / 8 &&& 1) + (z / 16 &&& 1)
theorem pop5_le : ∀ z, z < 32 → pop5 z ≤ 5 := by decide +kernel
abbrev subB (z w : Nat) : Prop := z &&& w = z
theorem subB_i : ∀ z, z < 32 → ∀ w, w < 32 → ((nI z &&& (nI w ^^^ (-1)) = nI 0) ↔ subB z w) := by decide +kernel
theorem subB_h : ∀ z, z < 32 → ∀ w, w < 32 → subB z w → ∀ q, q < 5 → hasB z q → hasB w q := by decide +kernel
theorem hb_1 : ∀ m, m < 32 → ∀ j, j < 5 → (hasB m j ↔ m.testBit j = true) := by decide +kernel
theorem hb_2 : ∀ k, k < 5 → ∀ m, m < 2 ^ k → ∀ j, j < 5 → ((m + 2 ^ k).testBit j = true ↔ (j = k ∨ m.testBit j = true)) := by decide +kernel
theorem hb_3 : ∀ k, k < 6 → ∀ m, m < 2 ^ k → ∀ j, j < 5 → (m.testBit j = true → j < k) := by decide +kernel
theorem hasB_bts {n : Nat} {p : Nat → Bool} (hn : n ≤ 5) {q : Nat} (hq : q < 5) : hasB (bts n p) q ↔ (q < n ∧ p q = true) := by
  have main : ∀ n, n ≤ 5 → ((bts n p).testBit q = true ↔ (q < n ∧ p q = true)) := by
    intro n
    induction n with
    | zero => intro _; simp [bts]
    | succ n ih =>
      intro hn
      have hlt := bts_lt p n
      have e := ih (by omega)
      simp only [bts]
      by_cases hp : p n = true
      · rw [if_pos hp, hb_2 n (by omega) _ hlt q hq, e]
        constructor
        · rintro (h | h)
          · subst h; exact ⟨by omega, hp⟩
          · exact ⟨by omega, h.2⟩
        · intro h
          rcases Nat.lt_succ_iff_lt_or_eq.mp h.1 with r | r
          · exact Or.inr ⟨r, h.2⟩
          · exact Or.inl r
      · rw [if_neg hp, Nat.add_zero, e]
        constructor
        · intro h; exact ⟨by omega, h.2⟩
        · intro h
          rcases Nat.lt_succ_iff_lt_or_eq.mp h.1 with r | r
          · exact ⟨r, h.2⟩
          · subst r; exact absurd h.2 hp
  rw [hb_1 _ (bts_le hn) q hq]
  exact main n hn
/-- a set pledged now, one after the other -/
def plA (P : Nat → Nat → Nat) (z : Nat) (c : Nat → Int32) : Nat → Option (Nat → Int32)
  | 0 => some c
  | q + 1 => match plA P z c q with
    | none => none
    | some g => if hasB z q then (if canP P g q then some (pledgeF P g q) else none) else some g
def ifPl (P : Nat → Nat → Nat) (nq nd : Nat) (c : Nat → Int32) (k z : Nat) (v : Int32) : Option Nat :=
  if subB z (ownB nq P (nI k)) then (match plA P z c 5 with
    | none => none
    | some g => if v ≤ g (2 + k) then some (pop5 (deedsThat nd (passN P nq nd g 20) (nI 1) &&& deedsB nd P (nI k))) else none) else none
/-- the best of the sets below s: which, how many -/
def raF (P : Nat → Nat → Nat) (nq nd : Nat) (c : Nat → Int32) (k : Nat) (v : Int32) : Nat → Option (Nat × Nat)
  | 0 => none
  | s + 1 => match ifPl P nq nd c k s v with
    | none => raF P nq nd c k v s
    | some d => match raF P nq nd c k v s with
      | none => some (s, d)
      | some (b, m) => if m < d ∨ (d = m ∧ pop5 s < pop5 b) then some (s, d) else some (b, m)
abbrev okV (v : Int32) : Prop := nI 0 ≤ v ∧ v ≤ nI 60
def raiseR (np nq nd : Nat) (P : Nat → Nat → Nat) (c : Nat → Int32) (a v w : Int32) : Int32 :=
  if inR a np then (if okV v ∧ okC w then (if w = nI 0 then oI ((raF P nq nd c (K a) v 32).map Prod.fst) else oI ((raF P nq nd c (K a) v 32).map Prod.snd)) else (-2)) else (-1)
/-- the first day, from a day on, on which it can be redeemed -/
def backF (P : Nat → Nat → Nat) (nq nd : Nat) (c : Nat → Int32) (q : Nat) : Nat → Nat → Int32
  | 0, _ => (-9)
  | n + 1, i => if canR P (passN P nq nd c i) q then nI i else backF P nq nd c q n (i + 1)
def backR (nq nd : Nat) (P : Nat → Nat → Nat) (c : Nat → Int32) (a : Int32) : Int32 := if inR a nq then (if c (5 + K a) = nI 1 then backF P nq nd c (K a) 21 0 else (-3)) else (-1)
-- asked
def askR (na : Nat) (a b : Int32) : Int32 := if (nI 0 ≤ a ∧ a ≤ nI 8) ∧ (nI 0 ≤ b ∧ b ≤ nI 30) then (if na < 6 then nI (na + 1) else (-4)) else (-2)
def askF (na : Nat) (f : Nat → Int32) (a b v : Int32) : Nat → Int32 := if (nI 0 ≤ a ∧ a ≤ nI 8) ∧ (nI 0 ≤ b ∧ b ≤ nI 30) then (if na < 6 then upd f na v else f) else f
def askN (na : Nat) (a b : Int32) : Nat := if (nI 0 ≤ a ∧ a ≤ nI 8) ∧ (nI 0 ≤ b ∧ b ≤ nI 30) then (if na < 6 then na + 1 else na) else na
/-- pairs of kind and worth by number: found, the first -/
def tkN (f g : Nat → Int32) (na : Nat) : Nat → Nat
  | 0 => 0
  | i + 1 => tkN f g na i + (if fitsF f g na (nI (i / 9)) (nI (i % 9 + 1)) then 1 else 0)
def tkF (f g : Nat → Int32) (na : Nat) : Nat → Int32
  | 0 => (-9)
  | i + 1 => if fitsF f g na (nI (i / 9)) (nI (i % 9 + 1)) ∧ tkN f g na i = 0 then nI (10 * (i / 9) + (i % 9 + 1)) else tkF f g na i
def ticketsR (f g : Nat → Int32) (na : Nat) (w : Int32) : Int32 := if okC w then (if w = nI 0 then nI (tkN f g na 36) else tkF f g na 36) else (-2)
-- slots
abbrev okS (a : Int32) : Prop := nI 0 ≤ a ∧ a < nI 2
