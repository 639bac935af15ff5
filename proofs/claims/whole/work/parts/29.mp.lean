/-! the reference's order of the cells -/
def piM (j : Nat) : Nat := if j = 0 then 0 else if j = 19 then 1 else if j < 19 then j + 1 else j
def mp (c : Nat → Int32) : Nat → Int32 := fun j => c (piM j)
theorem piM_inj {i j : Nat} (h : piM i = piM j) : i = j := by
  unfold piM at h
  split at h <;> split at h <;> (try split at h) <;> (try split at h) <;> (try split at h) <;> (try split at h) <;> omega
theorem piM_1 {k : Nat} (h : k < 3) : piM (1 + k) = 2 + k := by unfold piM; rw [if_neg (by omega), if_neg (by omega), if_pos (by omega)]; omega
theorem piM_4 {k : Nat} (h : k < 5) : piM (4 + k) = 5 + k := by unfold piM; rw [if_neg (by omega), if_neg (by omega), if_pos (by omega)]; omega
theorem piM_9 {k : Nat} (h : k < 5) : piM (9 + k) = 10 + k := by unfold piM; rw [if_neg (by omega), if_neg (by omega), if_pos (by omega)]; omega
theorem piM_14 {k : Nat} (h : k < 5) : piM (14 + k) = 15 + k := by unfold piM; rw [if_neg (by omega), if_neg (by omega), if_pos (by omega)]; omega
theorem mp_0 (c : Nat → Int32) : mp c 0 = c 0 := rfl
theorem mp_19 (c : Nat → Int32) : mp c 19 = c 1 := rfl
theorem mp_1 (c : Nat → Int32) {k : Nat} (h : k < 3) : mp c (1 + k) = c (2 + k) := congrArg c (piM_1 h)
theorem mp_4 (c : Nat → Int32) {k : Nat} (h : k < 5) : mp c (4 + k) = c (5 + k) := congrArg c (piM_4 h)
theorem mp_9 (c : Nat → Int32) {k : Nat} (h : k < 5) : mp c (9 + k) = c (10 + k) := congrArg c (piM_9 h)
theorem mp_14 (c : Nat → Int32) {k : Nat} (h : k < 5) : mp c (14 + k) = c (15 + k) := congrArg c (piM_14 h)
theorem mp_u (c : Nat → Int32) (v : Int32) (j : Nat) : upd (mp c) j v = mp (upd c (piM j) v) := by
  funext i
  unfold mp upd
  by_cases h : i = j
  · rw [if_pos h, if_pos (by rw [h])]
  · rw [if_neg h, if_neg (fun q => h (piM_inj q))]
theorem mpu_0 (c : Nat → Int32) (v : Int32) : upd (mp c) 0 v = mp (upd c 0 v) := mp_u c v 0
theorem mpu_19 (c : Nat → Int32) (v : Int32) : upd (mp c) 19 v = mp (upd c 1 v) := mp_u c v 19
theorem mpu_1 (c : Nat → Int32) (v : Int32) {k : Nat} (h : k < 3) : upd (mp c) (1 + k) v = mp (upd c (2 + k) v) := by rw [mp_u, piM_1 h]
theorem mpu_4 (c : Nat → Int32) (v : Int32) {k : Nat} (h : k < 5) : upd (mp c) (4 + k) v = mp (upd c (5 + k) v) := by rw [mp_u, piM_4 h]
theorem mpu_9 (c : Nat → Int32) (v : Int32) {k : Nat} (h : k < 5) : upd (mp c) (9 + k) v = mp (upd c (10 + k) v) := by rw [mp_u, piM_9 h]
theorem mpu_14 (c : Nat → Int32) (v : Int32) {k : Nat} (h : k < 5) : upd (mp c) (14 + k) v = mp (upd c (15 + k) v) := by rw [mp_u, piM_14 h]
def popN (z : Nat) : Nat → Nat
  | 0 => 0
  | k + 1 => popN z k + (z / 2 ^ k &&& 1)
theorem popN_le (z : Nat) : ∀ k, popN z k ≤ k
  | 0 => Nat.le_refl _
  | k + 1 => by
    have := popN_le z k
    have h : z / 2 ^ k &&& 1 ≤ 1 := Nat.and_le_right
    show popN z k + (z / 2 ^ k &&& 1) ≤ k + 1
    omega
theorem popN_5 (z : Nat) : popN z 5 = pop5 z := by
  show 0 + (z / 2 ^ 0 &&& 1) + (z / 2 ^ 1 &&& 1) + (z / 2 ^ 2 &&& 1) + (z / 2 ^ 3 &&& 1) + (z / 2 ^ 4 &&& 1) = _
  unfold pop5
  rw [Nat.zero_add, Nat.pow_zero, Nat.div_one]
/-- a day that has not been lived through yet -/
def Fresh (P : Nat → Nat → Nat) (nd : Nat) (c : Nat → Int32) : Prop := ∀ d, d < nd → nI (P 4 d) = c 1 → c (15 + d) = nI 0
theorem deedF_out {np nq nd : Nat} {P : Nat → Nat → Nat} (hP : WFP np nq nd P) (c : Nat → Int32) {d j : Nat} (hd : d < nd) (hj : j ≠ d) (hj5 : j < 5) : deedF P c d (15 + j) = c (15 + j) := by
  obtain ⟨⟨h1, h2, h3⟩, h4, h5⟩ := hP
  have ha := (h5 d hd).1
  have hb := (h4 _ ha).1
  unfold deedF
  split
  · rw [payF_ne _ _ (by omega), upd_ne _ _ (by omega)]
  · rw [upd_ne _ _ (by omega)]
theorem dayD_out {np nq nd : Nat} {P : Nat → Nat → Nat} (hP : WFP np nq nd P) (c : Nat → Int32) {j : Nat} (hj5 : j < 5) : ∀ d, d ≤ nd → d ≤ j → dayD P c d (15 + j) = c (15 + j)
  | 0, _, _ => rfl
  | d + 1, h, hj => by
    unfold dayD
    split
    · rw [deedF_out hP _ (by omega) (by omega) hj5]; exact dayD_out hP c hj5 d (by omega) (by omega)
    · exact dayD_out hP c hj5 d (by omega) (by omega)
theorem add_0 (x : Int32) : x + nI 0 = x := by
  show x + 0 = x
  exact Int32.add_zero x
theorem upd_add0 (f : Nat → Int32) (k : Nat) : upd f k (f k + nI 0) = f := by rw [add_0]; exact upd_id f k
theorem inR_m1 {a : Int32} {n : Nat} (hn : n < 2 ^ 30) : (nI 0 ≤ a ∧ a ≤ nI n - nI 1) ↔ inR a n := by
  have e : (nI n - nI 1).toInt = (n : Int) - 1 := pk_sub_toInt hn (by decide)
  have e0 : (nI 0).toInt = 0 := nI_toInt (by decide)
  have en : (nI n).toInt = n := nI_toInt (by omega)
  have key : (a ≤ nI n - nI 1) ↔ a < nI n := by
    rw [Int32.le_iff_toInt_le, Int32.lt_iff_toInt_lt, e, en]
    constructor <;> intro h <;> omega
  constructor
  · intro h; exact ⟨h.1, key.mp h.2⟩
  · intro h; exact ⟨h.1, key.mpr h.2⟩
theorem fig_w {t lo hi : Nat} (ht : t < 256) (hlo : lo < 100) (hhi : hi < 100) : (nI lo ≤ nI t - nI 48 ∧ nI t - nI 48 ≤ nI hi) ↔ (48 + lo ≤ t ∧ t ≤ 48 + hi) := by
  have e : (nI t - nI 48).toInt = (t : Int) - 48 := pk_sub_toInt (by omega) (by decide)
  have e1 : (nI lo).toInt = lo := nI_toInt (by omega)
  have e2 : (nI hi).toInt = hi := nI_toInt (by omega)
  rw [Int32.le_iff_toInt_le, Int32.le_iff_toInt_le, e, e1, e2]
  constructor <;> intro h <;> omega
/-- what the reference has read, and the rows that it tells -/
def RelP (f7 f8 f9 : Nat → Int32) (ap aq ad : Nat) (pu : Nat → Nat) (P : Nat → Nat → Nat) : Prop :=
  (∀ k, k < ap → f7 k = nI (pu k)) ∧ (∀ k, k < aq → f8 (3 * k) = nI (P 0 k) ∧ f8 (3 * k + 1) = nI (P 1 k) ∧ f8 (3 * k + 2) = nI (P 2 k)) ∧ (∀ k, k < ad → f9 (3 * k) = nI (P 3 k) ∧ f9 (3 * k + 1) = nI (P 4 k) ∧ f9 (3 * k + 2) = nI (P 5 k))
theorem RelP.p {f7 f8 f9 : Nat → Int32} {ap aq ad : Nat} {pu : Nat → Nat} {P : Nat → Nat → Nat} (h : RelP f7 f8 f9 ap aq ad pu P) (v : Nat) : RelP (upd f7 ap (nI v)) f8 f9 (ap + 1) aq ad (up1 pu ap v) P := by
  refine ⟨fun k hk => ?_, h.2.1, h.2.2⟩
  by_cases q : k = ap
  · subst q; simp [upd, up1]
  · rw [upd_ne _ _ q, h.1 k (by omega)]; simp [up1, q]
theorem RelP.q {f7 f8 f9 : Nat → Int32} {ap aq ad : Nat} {pu : Nat → Nat} {P : Nat → Nat → Nat} (h : RelP f7 f8 f9 ap aq ad pu P) (o w d : Nat) : RelP f7 (upd (upd (upd f8 (3 * aq) (nI o)) (3 * aq + 1) (nI w)) (3 * aq + 2) (nI d)) f9 ap (aq + 1) ad pu (addQ P aq o w d) := by
  refine ⟨h.1, fun k hk => ?_, fun k hk => ?_⟩
  · by_cases q : k = aq
    · subst q
      refine ⟨?_, ?_, ?_⟩ <;> simp [upd, addQ, up2]
    · have := h.2.1 k (by omega)
      refine ⟨?_, ?_, ?_⟩
      · rw [upd_ne _ _ (by omega), upd_ne _ _ (by omega), upd_ne _ _ (by omega), this.1]; simp [addQ, up2, q]
      · rw [upd_ne _ _ (by omega), upd_ne _ _ (by omega), upd_ne _ _ (by omega), this.2.1]; simp [addQ, up2, q]
      · rw [upd_ne _ _ (by omega), upd_ne _ _ (by omega), upd_ne _ _ (by omega), this.2.2]; simp [addQ, up2, q]
  · have := h.2.2 k hk
    refine ⟨?_, ?_, ?_⟩
    · rw [this.1]; simp [addQ, up2]
    · rw [this.2.1]; simp [addQ, up2]
    · rw [this.2.2]; simp [addQ, up2]
theorem RelP.d {f7 f8 f9 : Nat → Int32} {ap aq ad : Nat} {pu : Nat → Nat} {P : Nat → Nat → Nat} (h : RelP f7 f8 f9 ap aq ad pu P) (o w d : Nat) : RelP f7 f8 (upd (upd (upd f9 (3 * ad) (nI o)) (3 * ad + 1) (nI w)) (3 * ad + 2) (nI d)) ap aq (ad + 1) pu (addD P ad o w d) := by
  refine ⟨h.1, fun k hk => ?_, fun k hk => ?_⟩
  · have := h.2.1 k hk
    refine ⟨?_, ?_, ?_⟩
    · rw [this.1]; simp [addD, up2]
    · rw [this.2.1]; simp [addD, up2]
    · rw [this.2.2]; simp [addD, up2]
  · by_cases q : k = ad
    · subst q
      refine ⟨?_, ?_, ?_⟩ <;> simp [upd, addD, up2]
    · have := h.2.2 k (by omega)
      refine ⟨?_, ?_, ?_⟩
      · rw [upd_ne _ _ (by omega), upd_ne _ _ (by omega), upd_ne _ _ (by omega), this.1]; simp [addD, up2, q]
      · rw [upd_ne _ _ (by omega), upd_ne _ _ (by omega), upd_ne _ _ (by omega), this.2.1]; simp [addD, up2, q]
      · rw [upd_ne _ _ (by omega), upd_ne _ _ (by omega), upd_ne _ _ (by omega), this.2.2]; simp [addD, up2, q]
