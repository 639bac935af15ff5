/-! the mathematical shop: plan rows P (0 owner, 1 worth, 2 kind, 3 wanted, 4 day, 5 reward), a state's 20 cells c
(0 till, 1 day, 2+p purse, 5+q standing, 10+q since, 15+d outcome) -/
def bts : Nat → (Nat → Bool) → Nat
  | 0, _ => 0
  | n + 1, p => bts n p + (if p n then 2 ^ n else 0)
theorem bts_lt (p : Nat → Bool) : ∀ n, bts n p < 2 ^ n
  | 0 => by simp [bts]
  | n + 1 => by
    have := bts_lt p n
    simp only [bts, Nat.pow_succ]
    split <;> omega
theorem bts_congr {p q : Nat → Bool} : ∀ n, (∀ k, k < n → p k = q k) → bts n p = bts n q
  | 0, _ => rfl
  | n + 1, h => by
    simp only [bts]
    rw [bts_congr n (fun k hk => h k (by omega)), h n (by omega)]
theorem or_pow : ∀ {a n : Nat}, a < 2 ^ n → a ||| 2 ^ n = a + 2 ^ n := by
  intro a n h
  have q := Nat.two_pow_add_eq_or_of_lt h 1
  rw [Nat.mul_one] at q
  rw [Nat.or_comm, ← q, Nat.add_comm]
theorem bts_t {p : Nat → Bool} {n : Nat} (h : p n = true) : bts n p ||| 2 ^ n = bts (n + 1) p := by
  rw [or_pow (bts_lt p n)]; simp [bts, h]
theorem bts_f {p : Nat → Bool} {n : Nat} (h : p n = false) : bts n p ||| 0 = bts (n + 1) p := by
  simp [bts, h]
theorem bts_le {p : Nat → Bool} {n : Nat} (h : n ≤ 5) : bts n p < 32 := Nat.lt_of_lt_of_le (bts_lt p n) (Nat.pow_le_pow_right (by decide) h)
/-- what is due -/
def dueF (k w d o : Int32) : Int32 := if k = nI 1 then w + nI 2 * d else if k = nI 2 then (if o - o / nI 7 * nI 7 = nI 6 then w else w + d) else if k = nI 3 then w else w + d
def owed (P : Nat → Nat → Nat) (c : Nat → Int32) (q : Nat) : Int32 := if c (5 + q) = nI 1 then dueF (nI (P 2 q)) (nI (P 1 q)) (c 1 - c (10 + q)) (c 1) else nI 0
def thatAre (nq : Nat) (c : Nat → Int32) (s : Int32) : Nat := bts nq (fun q => decide (c (5 + q) = s))
def deedsThat (nd : Nat) (c : Nat → Int32) (s : Int32) : Nat := bts nd (fun d => decide (c (15 + d) = s))
def ownB (nq : Nat) (P : Nat → Nat → Nat) (a : Int32) : Nat := bts nq (fun q => decide (nI (P 0 q) = a))
def deedsB (nd : Nat) (P : Nat → Nat → Nat) (a : Int32) : Nat := bts nd (fun d => decide (nI (P 0 (P 3 d)) = a))
abbrev canP (P : Nat → Nat → Nat) (c : Nat → Int32) (q : Nat) : Prop := c (5 + q) = nI 0 ∧ nI (P 1 q) ≤ c 0
abbrev canR (P : Nat → Nat → Nat) (c : Nat → Int32) (q : Nat) : Prop := c (5 + q) = nI 1 ∧ owed P c q ≤ c (2 + P 0 q)
def payF (c : Nat → Int32) (p : Nat) (v : Int32) : Nat → Int32 := upd c (2 + p) (c (2 + p) + v)
def pledgeF (P : Nat → Nat → Nat) (c : Nat → Int32) (q : Nat) : Nat → Int32 := upd (upd (upd (payF c (P 0 q) (nI (P 1 q))) 0 (c 0 - nI (P 1 q))) (5 + q) (nI 1)) (10 + q) (c 1)
def redeemF (P : Nat → Nat → Nat) (c : Nat → Int32) (q : Nat) : Nat → Int32 := upd (upd (payF c (P 0 q) (-(owed P c q))) 0 (c 0 + owed P c q)) (5 + q) (nI 0)
def tryP (P : Nat → Nat → Nat) (c : Nat → Int32) (q : Nat) : Nat → Int32 := if canP P c q then pledgeF P c q else c
def tryR (P : Nat → Nat → Nat) (c : Nat → Int32) (q : Nat) : Nat → Int32 := if canR P c q then redeemF P c q else c
def deedF (P : Nat → Nat → Nat) (c : Nat → Int32) (d : Nat) : Nat → Int32 := if c (5 + P 3 d) = nI 0 then payF (upd c (15 + d) (nI 1)) (P 0 (P 3 d)) (nI (P 5 d)) else upd c (15 + d) (nI 2)
def dayD (P : Nat → Nat → Nat) (c : Nat → Int32) : Nat → Nat → Int32
  | 0 => c
  | d + 1 => if nI (P 4 d) = c 1 then deedF P (dayD P c d) d else dayD P c d
def cntD (P : Nat → Nat → Nat) (c : Nat → Int32) : Nat → Nat
  | 0 => 0
  | d + 1 => cntD P c d + (if nI (P 4 d) = c 1 ∧ dayD P c d (5 + P 3 d) = nI 0 then 1 else 0)
def sellD (P : Nat → Nat → Nat) (c : Nat → Int32) : Nat → Nat → Int32
  | 0 => c
  | q + 1 => if sellD P c q (5 + q) = nI 1 ∧ nI 9 ≤ c 1 - c (10 + q) ∧ P 2 q ≠ 3 then upd (sellD P c q) (5 + q) (nI 2) else sellD P c q
def passF (P : Nat → Nat → Nat) (nq nd : Nat) (c : Nat → Int32) : Nat → Int32 := sellD P (upd (dayD P c nd) 1 (c 1 + nI 1)) nq
def passN (P : Nat → Nat → Nat) (nq nd : Nat) (c : Nat → Int32) : Nat → Nat → Int32
  | 0 => c
  | n + 1 => passF P nq nd (passN P nq nd c n)
/-- a plan as a text tells it -/
def WFP (np nq nd : Nat) (P : Nat → Nat → Nat) : Prop := (np ≤ 3 ∧ nq ≤ 5 ∧ nd ≤ 5) ∧ (∀ q, q < nq → P 0 q < np ∧ 1 ≤ P 1 q ∧ P 1 q ≤ 9 ∧ P 2 q ≤ 3) ∧ (∀ d, d < nd → P 3 d < nq ∧ P 4 d ≤ 9 ∧ P 5 d ≤ 9)
theorem upd_self (f : Nat → Int32) (k : Nat) (v : Int32) : upd f k v k = v := by simp [upd]
theorem upd_ne (f : Nat → Int32) {k j : Nat} (v : Int32) (h : j ≠ k) : upd f k v j = f j := by simp [upd, h]
theorem upd_id (f : Nat → Int32) (k : Nat) : upd f k (f k) = f := by funext j; by_cases h : j = k <;> simp [upd, h]
theorem upd_comm (f : Nat → Int32) {i j : Nat} (v w : Int32) (h : i ≠ j) : upd (upd f i v) j w = upd (upd f j w) i v := by
  funext k
  by_cases h1 : k = i <;> by_cases h2 : k = j <;> simp [upd, h1, h2] <;> omega
theorem payF_ne (c : Nat → Int32) {p j : Nat} (v : Int32) (h : j ≠ 2 + p) : payF c p v j = c j := upd_ne _ _ h
theorem deedF_day {np nq nd : Nat} {P : Nat → Nat → Nat} (hP : WFP np nq nd P) (c : Nat → Int32) {d j : Nat} (hd : d < nd) (hj : j = 0 ∨ j = 1 ∨ (5 ≤ j ∧ j < 15)) : deedF P c d j = c j := by
  obtain ⟨⟨h1, h2, h3⟩, h4, h5⟩ := hP
  have ha := (h5 d hd).1
  have hb := (h4 _ ha).1
  unfold deedF
  split
  · rw [payF_ne _ _ (by omega), upd_ne _ _ (by omega)]
  · rw [upd_ne _ _ (by omega)]
theorem dayD_day {np nq nd : Nat} {P : Nat → Nat → Nat} (hP : WFP np nq nd P) (c : Nat → Int32) {j : Nat} (hj : j = 0 ∨ j = 1 ∨ (5 ≤ j ∧ j < 15)) : ∀ d, d ≤ nd → dayD P c d j = c j
  | 0, _ => rfl
  | d + 1, h => by
    unfold dayD
    split
    · rw [deedF_day hP _ (by omega) hj]; exact dayD_day hP c hj d (by omega)
    · exact dayD_day hP c hj d (by omega)
theorem sellD_ne (P : Nat → Nat → Nat) (c : Nat → Int32) {j : Nat} : ∀ q, (j < 5 ∨ 5 + q ≤ j) → sellD P c q j = c j
  | 0, _ => rfl
  | q + 1, h => by
    unfold sellD
    split
    · rw [upd_ne _ _ (by omega)]; exact sellD_ne P c q (by omega)
    · exact sellD_ne P c q (by omega)
def sumP (c : Nat → Int32) : Nat → Int32
  | 0 => nI 0
  | p + 1 => sumP c p + c (2 + p)
abbrev okG (v : Int32) : Prop := nI 1 ≤ v ∧ v ≤ nI 9
def tryG (c : Nat → Int32) (k : Nat) (v : Int32) : Nat → Int32 := if okG v then payF c k v else c
def sellB (a : Int32) (c : Nat → Int32) : Nat → Nat → Int32
  | 0 => c
  | q + 1 => if nI q = a then sellB a c q else upd (sellB a c q) (5 + q) (nI 2)
abbrev hasB (z q : Nat) : Prop := z / 2 ^ q &&& 1 = 1
def settleF (z : Nat) (c : Nat → Int32) : Nat → Nat → Int32
  | 0 => c
  | q + 1 => if settleF z c q (5 + q) = nI 1 then upd (settleF z c q) (5 + q) (if hasB z q then nI 2 else nI 0) else settleF z c q
theorem and1_lt (x : Nat) : x &&& 1 < 2 ^ 31 := Nat.lt_of_le_of_lt Nat.and_le_right (by decide)
