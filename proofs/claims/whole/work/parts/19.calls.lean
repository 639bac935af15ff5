theorem ok_n1 {a : Int32} {M : Nat} (hM : M < 2 ^ 30) (h1 : ¬ a < nI 1) (h2 : a ≤ nI M) : ∃ k : Nat, 1 ≤ k ∧ k ≤ M ∧ a = nI k := by
  have h0 : nI 0 ≤ a := by
    rw [Int32.lt_iff_toInt_lt, nI_toInt (by decide)] at h1
    rw [Int32.le_iff_toInt_le, nI_toInt (by decide)]
    omega
  obtain ⟨k, hk, rfl⟩ := ok_n hM ⟨h0, h2⟩
  refine ⟨k, ?_, hk, rfl⟩
  rw [nI_ltI (by omega) (by decide)] at h1
  omega
abbrev KL (a : Int64) : Nat := a.toInt.toNat
theorem KL_n {k : Nat} (h : k < 2 ^ 63) : KL (lN k) = k := by
  unfold KL; rw [pk_lT h]; exact Int.toNat_natCast k
/-- told doings: the first that can not be -/
def figT (rh jn k : Nat) : Nat := rh / (1000 ^ (jn - k) / 1000) % 1000
def stB (P : Nat → Nat → Nat) (np nq nd : Nat) (g : Nat → Int32) (t : Nat) : Bool := decide (doOK P np nq nd g (t / 100) (t / 10 % 10) (t % 10))
def stF (P : Nat → Nat → Nat) (np nq nd : Nat) (g : Nat → Int32) (t : Nat) : Nat → Int32 := doF P np nq nd g (t / 100) (t / 10 % 10) (t % 10)
def judF (P : Nat → Nat → Nat) (np nq nd rh jn : Nat) : Nat → Nat → (Nat → Int32) → Int32
  | 0, _, _ => (-9)
  | f + 1, k, g => if stB P np nq nd g (figT rh jn k) = true then judF P np nq nd rh jn f (k + 1) (stF P np nq nd g (figT rh jn k)) else nI k
abbrev okJ (a : Int32) : Prop := nI 1 ≤ a ∧ a ≤ nI 4
def judgeR (np nq nd : Nat) (P : Nat → Nat → Nat) (c : Nat → Int32) (a : Int32) (w : Int64) : Int32 :=
  if okJ a then (if 0 ≤ w ∧ w < lN (1000 ^ K a) then judF P np nq nd (KL w) (K a) (K a) 0 c else (-2)) else (-2)
theorem p1000 {k : Nat} (h : k ≤ 4) : 1 ≤ 1000 ^ k ∧ 1000 ^ k ≤ 1000000000000 := by
  rcases (show k = 0 ∨ k = 1 ∨ k = 2 ∨ k = 3 ∨ k = 4 by omega) with rfl | rfl | rfl | rfl | rfl <;> exact ⟨Nat.le_of_ble_eq_true rfl, Nat.le_of_ble_eq_true rfl⟩
theorem q1000 {n k : Nat} (h : k < n) : 1000 ^ (n - k) / 1000 / 1000 = 1000 ^ (n - (k + 1)) / 1000 := by
  obtain ⟨j, hj⟩ : ∃ j, n - k = j + 1 := ⟨n - k - 1, by omega⟩
  rw [hj, show n - (k + 1) = j by omega, Nat.pow_succ, Nat.mul_div_cancel _ (by decide)]
theorem r1000 {n k : Nat} (h : k < n) : 1 ≤ 1000 ^ (n - k) / 1000 := by
  obtain ⟨j, hj⟩ : ∃ j, n - k = j + 1 := ⟨n - k - 1, by omega⟩
  rw [hj, Nat.pow_succ, Nat.mul_div_cancel _ (by decide)]
  exact Nat.pos_of_ne_zero (fun q => by have := Nat.pow_pos (n := j) (show 0 < 1000 by decide); omega)
/-- share: what is done more when it has come -/
def shA (P : Nat → Nat → Nat) (nq nd : Nat) (c : Nat → Int32) (a : Int32) : Nat := deedsThat nd (passN P nq nd (sellB a c nq) 20) (nI 1)
def shareR (nq nd : Nat) (P : Nat → Nat → Nat) (c : Nat → Int32) (a : Int32) (ub : Nat) : Int32 :=
  if inR a nq then nI (fracR (pop5 (shA P nq nd c a) - pop5 (shA P nq nd c (-9))) 1 ub) else (-1)
abbrev reOK (P : Nat → Nat → Nat) (nq nd : Nat) (c : Nat → Int32) (a b q : Nat) : Prop :=
  gainF P nq nd c a a b (q ^^^ 2) ≤ gainF P nq nd c a a b q ∧ gainF P nq nd c b a b (q ^^^ 1) ≤ gainF P nq nd c b a b q
def reN (P : Nat → Nat → Nat) (nq nd : Nat) (c : Nat → Int32) (a b : Nat) : Nat → Nat
  | 0 => 0
  | q + 1 => reN P nq nd c a b q + (if reOK P nq nd c a b q then 1 else 0)
def reF (P : Nat → Nat → Nat) (nq nd : Nat) (c : Nat → Int32) (a b : Nat) : Nat → Int32
  | 0 => (-9)
  | q + 1 => if reOK P nq nd c a b q ∧ reN P nq nd c a b q = 0 then nI (10 * (q / 2) + (q &&& 1)) else reF P nq nd c a b q
def restsR (np nq nd : Nat) (P : Nat → Nat → Nat) (c : Nat → Int32) (a b w : Int32) : Int32 :=
  if inR a np ∧ inR b np then (if ¬ a = b ∧ okC w then (if w = nI 0 then nI (reN P nq nd c (K a) (K b) 4) else reF P nq nd c (K a) (K b) 4) else (-2)) else (-1)
theorem xor4 {q x : Nat} (h : q < 4) (hx : x < 4) : q ^^^ x < 4 := by
  have := Nat.xor_lt_two_pow (n := 2) h hx; exact this
/-- sales: weights by which enough are done, and all -/
def slE (P : Nat → Nat → Nat) (nq nd : Nat) (c : Nat → Int32) (m x : Nat) : Nat → Nat
  | 0 => 0
  | z + 1 => slE P nq nd c m x z + (if subB z (thatAre nq c (nI 1)) then (if m ≤ pop5 (deedsThat nd (passN P nq nd (settleF z c nq) 20) (nI 1)) then wtF z (thatAre nq c (nI 1)) x 5 else 0) else 0)
def slA (w x : Nat) : Nat → Nat
  | 0 => 0
  | z + 1 => slA w x z + (if subB z w then wtF z w x 5 else 0)
abbrev okM (a : Int32) : Prop := nI 0 ≤ a ∧ a ≤ nI 5
abbrev okX (a : Int32) : Prop := nI 0 ≤ a ∧ a ≤ nI 10
def salesR (nq nd : Nat) (P : Nat → Nat → Nat) (c : Nat → Int32) (a b : Int32) (ub : Nat) : Int32 :=
  if okM a ∧ okX b then nI (fracR (slE P nq nd c (K a) (K b) 32) (slA (thatAre nq c (nI 1)) (K b) 32) ub) else (-2)
theorem wtF_le {z w x : Nat} (hx : x ≤ 10) : ∀ q, wtF z w x q ≤ 10 ^ q
  | 0 => by simp [wtF]
  | q + 1 => by
    unfold wtF
    rw [Nat.pow_succ]
    exact Nat.mul_le_mul (wtF_le hx q) (by split <;> (try split) <;> omega)
theorem slE_le {P : Nat → Nat → Nat} {nq nd : Nat} {c : Nat → Int32} {m x : Nat} : ∀ z, slE P nq nd c m x z ≤ slA (thatAre nq c (nI 1)) x z
  | 0 => Nat.le_refl _
  | z + 1 => by
    unfold slE slA
    have := slE_le (P := P) (nq := nq) (nd := nd) (c := c) (m := m) (x := x) z
    split
    · split <;> omega
    · omega
theorem slA_10 : ∀ w, w < 32 → ∀ x, x ≤ 10 → slA w x 32 = 10 ^ pop5 w := by decide +kernel
/-- years -/
def yrH (ch : Int64) : Nat → Int64
  | 0 => ch
  | i + 1 => yrH ch i * 6364136223846793005 + 1442695040888963407
def tOf (x : Int64) : Nat := x.toBitVec.toNat / 2 ^ 33 % 24
def yrG (P : Nat → Nat → Nat) (np nq nd : Nat) (c : Nat → Int32) (ch : Int64) : Nat → Nat → Int32
  | 0 => c
  | i + 1 => chanceF P np nq nd (yrG P np nq nd c ch i) (tOf (yrH ch (i + 1)))
def yrS (P : Nat → Nat → Nat) (np nq nd : Nat) (c : Nat → Int32) (ch : Int64) : Nat → Int32
  | 0 => nI 0
  | i + 1 => yrS P np nq nd c ch i + sumP (yrG P np nq nd c ch (i + 1)) np
abbrev okY (a : Int32) : Prop := nI 1 ≤ a ∧ a ≤ nI 30
def yearsR (np nq nd : Nat) (P : Nat → Nat → Nat) (c : Nat → Int32) (ch : Int64) (a : Int32) : Int32 := if okY a then yrS P np nq nd c ch (K a) else (-2)
def yearsH (ch : Int64) (a : Int32) : Int64 := if okY a then yrH ch (K a) else ch
theorem chance_t (x : Int64) : (x.toUInt64 >>> ((nI 33).toInt64.toUInt64 &&& Int64.toUInt64 63)).toInt64 = lN (x.toBitVec.toNat / 2 ^ 33) := by
  apply Int64.toBitVec_inj.mp
  have e : ((nI 33).toInt64.toUInt64 &&& Int64.toUInt64 63) = UInt64.ofNat 33 := by decide +kernel
  rw [e]
  apply BitVec.eq_of_toNat_eq
  show (x.toUInt64 >>> UInt64.ofNat 33).toNat = (BitVec.ofNat 64 _).toNat
  have h1 : (UInt64.ofNat 33).toNat = 33 := by decide +kernel
  have h2 : x.toUInt64.toNat = x.toBitVec.toNat := rfl
  have hx := x.toBitVec.isLt
  rw [UInt64.toNat_shiftRight, h1, h2, Nat.mod_eq_of_lt (by decide), Nat.shiftRight_eq_div_pow, BitVec.toNat_ofNat, Nat.mod_eq_of_lt (Nat.lt_of_le_of_lt (Nat.div_le_self _ _) hx)]
