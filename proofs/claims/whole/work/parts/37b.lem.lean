/-! how many of five; what is done in twenty days -/
def cntN (p : Nat → Bool) : Nat → Nat
  | 0 => 0
  | n + 1 => cntN p n + (if p n then 1 else 0)
theorem pb_1 : ∀ m, m < 32 → pop5 m = (if hasB m 0 then 1 else 0) + (if hasB m 1 then 1 else 0) + (if hasB m 2 then 1 else 0) + (if hasB m 3 then 1 else 0) + (if hasB m 4 then 1 else 0) := by decide +kernel
theorem cnt_congr {p q : Nat → Bool} : ∀ n, (∀ k, k < n → p k = q k) → cntN p n = cntN q n
  | 0, _ => rfl
  | n + 1, h => by
    unfold cntN
    rw [cnt_congr n (fun k hk => h k (by omega)), h n (by omega)]
theorem cnt_out {p : Nat → Bool} : ∀ n m, n ≤ m → (∀ k, n ≤ k → p k = false) → cntN p m = cntN p n := by
  intro n m h hp
  induction h with
  | refl => rfl
  | @step m hm ih =>
    show cntN p m + (if p m then 1 else 0) = _
    rw [hp m hm, ih]; rfl
theorem pop5_bts {n : Nat} {p : Nat → Bool} (hn : n ≤ 5) : pop5 (bts n p) = cntN p n := by
  have e : ∀ q, q < 5 → ((if hasB (bts n p) q then 1 else 0 : Nat) = (if (decide (q < n) && p q) then 1 else 0)) := fun q hq => by
    have h := hasB_bts (p := p) hn hq
    by_cases hb : hasB (bts n p) q
    · rw [if_pos hb, if_pos (by rw [Bool.and_eq_true, decide_eq_true_iff]; exact h.mp hb)]
    · rw [if_neg hb, if_neg (fun w => hb (h.mpr (by rw [Bool.and_eq_true, decide_eq_true_iff] at w; exact w)))]
  rw [pb_1 _ (bts_le hn), e 0 (by decide), e 1 (by decide), e 2 (by decide), e 3 (by decide), e 4 (by decide)]
  have e5 : cntN (fun q => decide (q < n) && p q) 5 = cntN p n := by
    rw [cnt_out n 5 hn (fun k hk => by rw [show decide (k < n) = false from decide_eq_false (by omega)]; rfl)]
    exact cnt_congr n (fun k hk => by rw [show decide (k < n) = true from decide_eq_true hk]; rfl)
  rw [← e5]
  show _ = 0 + _ + _ + _ + _ + _
  rw [Nat.zero_add]
theorem cnt_le {p : Nat → Bool} : ∀ n, cntN p n ≤ n
  | 0 => Nat.le_refl _
  | n + 1 => by
    have := cnt_le (p := p) n
    unfold cntN
    split <;> omega
theorem cnt_mono {p q : Nat → Bool} (h : ∀ k, p k = true → q k = true) : ∀ n, cntN p n ≤ cntN q n
  | 0 => Nat.le_refl _
  | n + 1 => by
    have := cnt_mono h n
    unfold cntN
    by_cases hp : p n = true
    · rw [if_pos hp, if_pos (h n hp)]; omega
    · rw [if_neg hp]; omega
theorem cnt_dis {p q r : Nat → Bool} (h : ∀ k, r k = (p k || q k)) (hd : ∀ k, ¬ (p k = true ∧ q k = true)) : ∀ n, cntN r n = cntN p n + cntN q n
  | 0 => rfl
  | n + 1 => by
    have ih := cnt_dis h hd n
    have hn := h n
    have hdn := hd n
    unfold cntN
    rw [ih, hn]
    generalize cntN p n = A
    generalize cntN q n = B
    revert hdn
    cases p n <;> cases q n <;> intro hdn
    · show A + B + 0 = A + 0 + (B + 0); omega
    · show A + B + 1 = A + 0 + (B + 1); omega
    · show A + B + 1 = A + 1 + (B + 0); omega
    · exact absurd ⟨rfl, rfl⟩ hdn
section WIN
variable {np nq nd : Nat} {P : Nat → Nat → Nat}
/-- who is had stays had, who is not does not come back -/
theorem sellD_had (c : Nat → Int32) (j : Nat) : ∀ q, (sellD P c q (5 + j) = nI 0) ↔ (c (5 + j) = nI 0)
  | 0 => Iff.rfl
  | q + 1 => by
    have ih := sellD_had c j q
    unfold sellD
    split
    · rename_i h
      by_cases e : j = q
      · subst e
        rw [upd_self]
        constructor
        · intro w; exact absurd w (by decide)
        · intro w
          have := ih.mpr w
          rw [h.1] at this; exact absurd this (by decide)
      · rw [upd_ne _ _ (by omega)]; exact ih
    · exact ih
theorem passF_had (hP : WFP np nq nd P) (c : Nat → Int32) {j : Nat} (hj : j < 5) : (passF P nq nd c (5 + j) = nI 0) ↔ (c (5 + j) = nI 0) := by
  unfold passF
  rw [sellD_had, upd_ne _ _ (by omega), dayD_day hP c (by omega) nd (Nat.le_refl _)]
theorem passN_had (hP : WFP np nq nd P) (c : Nat → Int32) {j : Nat} (hj : j < 5) : ∀ n, (passN P nq nd c n (5 + j) = nI 0) ↔ (c (5 + j) = nI 0)
  | 0 => Iff.rfl
  | n + 1 => (passF_had hP _ hj).trans (passN_had hP c hj n)
theorem dayD_at (hP : WFP np nq nd P) (c : Nat → Int32) {j : Nat} (hj : j < nd) (h1 : nI (P 4 j) = c 1) : ∀ d, j < d → d ≤ nd → dayD P c d (15 + j) = (if c (5 + P 3 j) = nI 0 then nI 1 else nI 2)
  | 0, h, _ => absurd h (Nat.not_lt_zero _)
  | d + 1, h, hd => by
    have h3 := hP.1
    have hw3 := (hP.2.2 j hj).1
    have ho := (hP.2.1 _ hw3).1
    have e : dayD P c (d + 1) = if nI (P 4 d) = c 1 then deedF P (dayD P c d) d else dayD P c d := rfl
    rw [e]
    by_cases q : j = d
    · subst q
      rw [if_pos h1]
      unfold deedF
      rw [dayD_day hP c (by omega) j (by omega)]
      split
      · rw [payF_ne _ _ (by omega), upd_self]
      · rw [upd_self]
    · have ih := dayD_at hP c hj h1 d (by omega) (by omega)
      split
      · rw [deedF_out hP _ (by omega) q (by omega)]; exact ih
      · exact ih
theorem passF_at (hP : WFP np nq nd P) (c : Nat → Int32) {j : Nat} (hj : j < nd) (h1 : nI (P 4 j) = c 1) : passF P nq nd c (15 + j) = (if c (5 + P 3 j) = nI 0 then nI 1 else nI 2) := by
  have h3 := hP.1
  unfold passF
  rw [sellD_ne P _ nq (by omega), upd_ne _ _ (by omega)]
  exact dayD_at hP c hj h1 nd hj (Nat.le_refl _)
theorem passN_1 (c : Nat → Int32) {t : Nat} (h : c 1 = nI t) : ∀ n, passN P nq nd c n 1 = nI (t + n)
  | 0 => h
  | n + 1 => by
    show passF P nq nd (passN P nq nd c n) 1 = _
    rw [passF_1, passN_1 c h n, nI_add]; rfl
/-- a deed n days on -/
theorem passN_out (hP : WFP np nq nd P) (c : Nat → Int32) {t : Nat} (ht : t < 2 ^ 20) (h : c 1 = nI t) {j : Nat} (hj : j < nd) : ∀ n, n < 2 ^ 20 → passN P nq nd c n (15 + j) = (if t ≤ P 4 j ∧ P 4 j < t + n then (if c (5 + P 3 j) = nI 0 then nI 1 else nI 2) else c (15 + j))
  | 0, _ => by rw [if_neg (by omega)]; rfl
  | n + 1, hn => by
    have h9 := (hP.2.2 j hj).2.1
    have h3 := hP.1
    have hw3 := (hP.2.2 j hj).1
    have ih := passN_out hP c ht h hj n (by omega)
    have e1 : passN P nq nd c n 1 = nI (t + n) := passN_1 c h n
    show passF P nq nd (passN P nq nd c n) (15 + j) = _
    by_cases q : P 4 j = t + n
    · rw [passF_at hP _ hj (by rw [e1, q]), if_pos (show t ≤ P 4 j ∧ P 4 j < t + (n + 1) by omega)]
      have hh := passN_had (j := P 3 j) hP c (by omega) n
      by_cases w : c (5 + P 3 j) = nI 0
      · rw [if_pos w, if_pos (hh.mpr w)]
      · rw [if_neg w, if_neg (fun r => w (hh.mp r))]
    · rw [passF_out hP _ (by omega) (by rw [e1, nI_eq (by omega) (by omega)]; exact q), ih]
      by_cases r : t ≤ P 4 j ∧ P 4 j < t + n
      · rw [if_pos r, if_pos (show t ≤ P 4 j ∧ P 4 j < t + (n + 1) by omega)]
      · rw [if_neg r, if_neg (show ¬ (t ≤ P 4 j ∧ P 4 j < t + (n + 1)) by omega)]
/-- deeds that come yet -/
abbrev inW (P : Nat → Nat → Nat) (t d : Nat) : Prop := t ≤ P 4 d ∧ P 4 d < t + 20
theorem endN (hP : WFP np nq nd P) (g : Nat → Int32) {t : Nat} (ht : t < 2 ^ 20) (h : g 1 = nI t) : pop5 (deedsThat nd (passN P nq nd g 20) (nI 1)) = cntN (fun d => decide (if inW P t d then g (5 + P 3 d) = nI 0 else g (15 + d) = nI 1)) nd := by
  unfold deedsThat
  rw [pop5_bts hP.1.2.2]
  refine cnt_congr nd (fun d hd => ?_)
  have e := passN_out hP g ht h hd 20 (by decide)
  by_cases w : inW P t d
  · rw [if_pos w] at e
    simp only [if_pos w]
    rw [e]
    by_cases q : g (5 + P 3 d) = nI 0
    · rw [if_pos q, decide_eq_true q]; rfl
    · rw [if_neg q, decide_eq_false q]; decide
  · rw [if_neg w] at e
    simp only [if_neg w]
    rw [e]
/-- a set comes, the others are sold -/
def comeF (z : Nat) (c : Nat → Int32) : Nat → Nat → Int32
  | 0 => c
  | q + 1 => upd (comeF z c q) (5 + q) (if hasB z q then comeF z c q (5 + q) else nI 2)
theorem comeF_5 (z : Nat) (c : Nat → Int32) (j : Nat) : ∀ n, comeF z c n (5 + j) = if j < n ∧ ¬ hasB z j then nI 2 else c (5 + j)
  | 0 => by rw [if_neg (by omega)]; rfl
  | n + 1 => by
    have ih := comeF_5 z c j n
    unfold comeF
    by_cases e : j = n
    · subst e
      rw [upd_self, ih, if_neg (show ¬ (j < j ∧ ¬ hasB z j) from fun w => absurd w.1 (Nat.lt_irrefl _))]
      by_cases b : hasB z j
      · rw [if_pos b, if_neg (fun w => w.2 b)]
      · rw [if_neg b, if_pos ⟨Nat.lt_succ_self _, b⟩]
    · rw [upd_ne _ _ (by omega), ih]
      by_cases r : j < n ∧ ¬ hasB z j
      · rw [if_pos r, if_pos ⟨by omega, r.2⟩]
      · rw [if_neg r, if_neg (fun w => r ⟨by omega, w.2⟩)]
theorem comeF_o (z : Nat) (c : Nat → Int32) {j : Nat} : ∀ n, (j < 5 ∨ 5 + n ≤ j) → comeF z c n j = c j
  | 0, _ => rfl
  | n + 1, h => by
    unfold comeF
    rw [upd_ne _ _ (by omega)]; exact comeF_o z c n (by omega)
theorem sellB_5 (a : Int32) (c : Nat → Int32) (j : Nat) : ∀ n, sellB a c n (5 + j) = if j < n ∧ ¬ nI j = a then nI 2 else c (5 + j)
  | 0 => by rw [if_neg (by omega)]; rfl
  | n + 1 => by
    have ih := sellB_5 a c j n
    unfold sellB
    by_cases e : j = n
    · subst e
      rw [if_neg (show ¬ (j < j ∧ ¬ nI j = a) from fun w => absurd w.1 (Nat.lt_irrefl _))] at ih
      by_cases b : nI j = a
      · rw [if_pos b, ih, if_neg (fun w => w.2 b)]
      · rw [if_neg b, upd_self, if_pos ⟨Nat.lt_succ_self _, b⟩]
    · by_cases b : nI n = a
      · rw [if_pos b, ih]
        by_cases r : j < n ∧ ¬ nI j = a
        · rw [if_pos r, if_pos ⟨by omega, r.2⟩]
        · rw [if_neg r, if_neg (fun w => r ⟨by omega, w.2⟩)]
      · rw [if_neg b, upd_ne _ _ (by omega), ih]
        by_cases r : j < n ∧ ¬ nI j = a
        · rw [if_pos r, if_pos ⟨by omega, r.2⟩]
        · rw [if_neg r, if_neg (fun w => r ⟨by omega, w.2⟩)]
theorem sellB_o (a : Int32) (c : Nat → Int32) {j : Nat} : ∀ n, (j < 5 ∨ 5 + n ≤ j) → sellB a c n j = c j
  | 0, _ => rfl
  | n + 1, h => by
    unfold sellB
    split
    · exact sellB_o a c n (by omega)
    · rw [upd_ne _ _ (by omega)]; exact sellB_o a c n (by omega)
theorem Fr_come {c : Nat → Int32} {z t : Nat} (h : Fr P nd c t) : ∀ n, n ≤ 5 → Fr P nd (comeF z c n) t
  | 0, _ => h
  | n + 1, hn => Fr_upd (Fr_come h n (by omega)) (by omega) (by omega)
theorem Fr_settle {c : Nat → Int32} {z t : Nat} (h : Fr P nd c t) : ∀ n, n ≤ 5 → Fr P nd (settleF z c n) t
  | 0, _ => h
  | n + 1, hn => by
    unfold settleF
    split
    · exact Fr_upd (Fr_settle h n (by omega)) (by omega) (by omega)
    · exact Fr_settle h n (by omega)
/-- what has been done already, and what q does yet -/
def alr (P : Nat → Nat → Nat) (t : Nat) (c : Nat → Int32) (d : Nat) : Bool := decide (¬ inW P t d ∧ c (15 + d) = nI 1)
def byQ (P : Nat → Nat → Nat) (t : Nat) (c : Nat → Int32) (z : Nat) (d : Nat) : Bool := decide (inW P t d ∧ hasB z (P 3 d) ∧ c (5 + P 3 d) = nI 0)
theorem val_come (hP : WFP np nq nd P) {c : Nat → Int32} {t : Nat} (ht : t < 2 ^ 20) (h : c 1 = nI t) (z : Nat) : pop5 (deedsThat nd (passN P nq nd (comeF z c nq) 20) (nI 1)) = cntN (alr P t c) nd + cntN (byQ P t c z) nd := by
  have h3 := hP.1
  rw [endN hP _ ht (by rw [comeF_o z c nq (by omega)]; exact h), ← cnt_dis (r := fun d => alr P t c d || byQ P t c z d) (fun _ => rfl) (fun d w => by
    have w1 := (of_decide_eq_true w.1).1
    exact w1 (of_decide_eq_true w.2).1)]
  refine cnt_congr nd (fun d hd => ?_)
  have hw3 := (hP.2.2 d hd).1
  by_cases w : inW P t d
  · simp only [if_pos w]
    have ea : alr P t c d = false := decide_eq_false (fun r => r.1 w)
    rw [ea, Bool.false_or, comeF_5]
    unfold byQ
    by_cases b : hasB z (P 3 d)
    · rw [if_neg (fun r => r.2 b)]
      by_cases q : c (5 + P 3 d) = nI 0
      · rw [decide_eq_true q, decide_eq_true ⟨w, b, q⟩]
      · rw [decide_eq_false q, decide_eq_false (fun r => q r.2.2)]
    · rw [if_pos ⟨hw3, b⟩]; exact (decide_eq_false (by decide)).trans (decide_eq_false (fun r => b r.2.1)).symm
  · simp only [if_neg w]
    have eb : byQ P t c z d = false := decide_eq_false (fun r => w r.1)
    rw [eb, Bool.or_false, comeF_o z c nq (by omega)]
    unfold alr
    by_cases q : c (15 + d) = nI 1
    · rw [decide_eq_true q, decide_eq_true ⟨w, q⟩]
    · rw [decide_eq_false q, decide_eq_false (fun r => q r.2)]
/-- what q alone adds -/
def addQn (P : Nat → Nat → Nat) (t : Nat) (c : Nat → Int32) (q d : Nat) : Bool := decide (inW P t d ∧ P 3 d = q ∧ c (5 + P 3 d) = nI 0)
theorem hb_or : ∀ z, z < 32 → ∀ q, q < 5 → ∀ j, j < 5 → (hasB (z ||| 2 ^ q) j ↔ (hasB z j ∨ j = q)) := by decide +kernel
theorem or_lt : ∀ n, n < 6 → ∀ z, z < 2 ^ n → ∀ q, q < n → z ||| 2 ^ q < 2 ^ n := by decide +kernel
theorem val_add (hP : WFP np nq nd P) {c : Nat → Int32} {t : Nat} {z q : Nat} (hz : z < 32) (hq : q < 5) (hn : ¬ hasB z q) : cntN (byQ P t c (z ||| 2 ^ q)) nd = cntN (byQ P t c z) nd + cntN (addQn P t c q) nd := by
  have h3 := hP.1
  rw [← cnt_dis (r := fun d => byQ P t c z d || addQn P t c q d) (fun _ => rfl) (fun d w => by
    have w1 := (of_decide_eq_true w.1).2.1
    rw [(of_decide_eq_true w.2).2.1] at w1
    exact hn w1)]
  refine cnt_congr nd (fun d hd => ?_)
  have hw3 := (hP.2.2 d hd).1
  have hb := hb_or z hz q hq (P 3 d) (by omega)
  show decide _ = (decide _ || decide _)
  rw [← Bool.decide_or]
  refine decide_eq_decide.mpr ?_
  rw [hb]
  constructor
  · rintro ⟨a, b | b, e⟩
    · exact Or.inl ⟨a, b, e⟩
    · exact Or.inr ⟨a, b, e⟩
  · rintro (⟨a, b, e⟩ | ⟨a, b, e⟩)
    · exact ⟨a, Or.inl b, e⟩
    · exact ⟨a, Or.inr b, e⟩
/-- what the one looks at -/
theorem shA_eq (hP : WFP np nq nd P) {c : Nat → Int32} {t : Nat} (ht : t < 2 ^ 20) (h : c 1 = nI t) (a : Int32) : pop5 (shA P nq nd c a) = cntN (alr P t c) nd + cntN (fun d => decide (inW P t d ∧ nI (P 3 d) = a ∧ c (5 + P 3 d) = nI 0)) nd := by
  have h3 := hP.1
  unfold shA
  rw [endN hP _ ht (by rw [sellB_o a c nq (by omega)]; exact h), ← cnt_dis (r := fun d => alr P t c d || decide (inW P t d ∧ nI (P 3 d) = a ∧ c (5 + P 3 d) = nI 0)) (fun _ => rfl) (fun d w => by
    have w1 := (of_decide_eq_true w.1).1
    exact w1 (of_decide_eq_true w.2).1)]
  refine cnt_congr nd (fun d hd => ?_)
  have hw3 := (hP.2.2 d hd).1
  by_cases w : inW P t d
  · simp only [if_pos w]
    have ea : alr P t c d = false := decide_eq_false (fun r => r.1 w)
    rw [ea, Bool.false_or, sellB_5]
    by_cases b : nI (P 3 d) = a
    · rw [if_neg (fun r => r.2 b)]
      by_cases q : c (5 + P 3 d) = nI 0
      · rw [decide_eq_true q, decide_eq_true ⟨w, b, q⟩]
      · rw [decide_eq_false q, decide_eq_false (fun r => q r.2.2)]
    · rw [if_pos ⟨hw3, b⟩]; exact (decide_eq_false (by decide)).trans (decide_eq_false (fun r => b r.2.1)).symm
  · simp only [if_neg w]
    rw [show decide (inW P t d ∧ nI (P 3 d) = a ∧ c (5 + P 3 d) = nI 0) = false from decide_eq_false (fun r => w r.1), Bool.or_false, sellB_o a c nq (by omega)]
    unfold alr
    by_cases q : c (15 + d) = nI 1
    · rw [decide_eq_true q, decide_eq_true ⟨w, q⟩]
    · rw [decide_eq_false q, decide_eq_false (fun r => q r.2)]
theorem shA_q (hP : WFP np nq nd P) {c : Nat → Int32} {t : Nat} (ht : t < 2 ^ 20) (h : c 1 = nI t) {q : Nat} (hq : q < nq) : pop5 (shA P nq nd c (nI q)) = cntN (alr P t c) nd + cntN (addQn P t c q) nd := by
  have h3 := hP.1
  rw [shA_eq hP ht h]
  congr 1
  refine cnt_congr nd (fun d hd => ?_)
  have hw3 := (hP.2.2 d hd).1
  unfold addQn
  exact decide_eq_decide.mpr (by rw [nI_eq (by omega) (by omega)])
theorem shA_n (hP : WFP np nq nd P) {c : Nat → Int32} {t : Nat} (ht : t < 2 ^ 20) (h : c 1 = nI t) : pop5 (shA P nq nd c (-9)) = cntN (alr P t c) nd := by
  have h3 := hP.1
  rw [shA_eq hP ht h]
  have e : cntN (fun d => decide (inW P t d ∧ nI (P 3 d) = (-9) ∧ c (5 + P 3 d) = nI 0)) nd = cntN (fun _ => false) nd := cnt_congr nd (fun d hd => by
    have hw3 := (hP.2.2 d hd).1
    exact decide_eq_false (fun r => nI_ne9 (by omega) r.2.1))
  rw [e]
  have z : ∀ n, cntN (fun _ => false) n = 0 := fun n => by
    induction n with
    | zero => rfl
    | succ n ih => show cntN (fun _ => false) n + 0 = 0; rw [ih]
  rw [z]; rfl
theorem shA_ge (hP : WFP np nq nd P) {c : Nat → Int32} {t : Nat} (ht : t < 2 ^ 20) (h : c 1 = nI t) (a : Int32) : pop5 (shA P nq nd c (-9)) ≤ pop5 (shA P nq nd c a) := by
  rw [shA_n hP ht h, shA_eq hP ht h a]; omega
end WIN
/-! the orders: how many, counted by who has come -/
def wsum (nq q : Nat) : Nat → Nat
  | 0 => 0
  | z + 1 => wsum nq q z + (if hasB z q then 0 else fac (pop5 z) * fac (nq - 1 - pop5 z))
theorem wsum_all : ∀ nq, nq < 6 → ∀ q, q < nq → wsum nq q (2 ^ nq) = fac nq := by decide +kernel
theorem wsum_le : ∀ nq, nq < 6 → ∀ q, q < nq → ∀ z, z < 33 → z ≤ 2 ^ nq → wsum nq q z ≤ 120 := by decide +kernel
theorem fac_pos : ∀ n, 0 < fac n
  | 0 => by decide
  | n + 1 => Nat.mul_pos (fac_pos n) (by omega)
theorem fac_le : ∀ n, n < 6 → fac n ≤ 120 := by decide +kernel
theorem frac_mul {k d ub : Nat} (hk : 0 < k) : fracR (k * d) k ub = fracR d 1 ub := by
  have e : Nat.gcd k (k * d) = k := Nat.gcd_eq_left (Nat.dvd_mul_right k d)
  unfold fracR
  rw [e, Nat.gcd_one_left, Nat.div_one, Nat.div_one, Nat.mul_div_cancel_left _ hk, Nat.div_self hk]
theorem pop_lt : ∀ n, n < 6 → ∀ z, z < 2 ^ n → ∀ q, q < n → ¬ hasB z q → pop5 z ≤ n - 1 := by decide +kernel
/-! sales -/
theorem wt_pow : ∀ w, w < 32 → ∀ z, z < 32 → subB z w → ∀ x, x ≤ 10 → wtF z w x 5 = x ^ pop5 z * (10 - x) ^ (pop5 w - pop5 z) ∧ pop5 z ≤ pop5 w := by decide +kernel
/-- the reference's way to settle -/
def setlF (w z : Nat) (c : Nat → Int32) : Nat → Nat → Int32
  | 0 => c
  | q + 1 => upd (setlF w z c q) (5 + q) (if hasB z q then nI 2 else if hasB w q then nI 0 else setlF w z c q (5 + q))
theorem setlF_o (w z : Nat) (c : Nat → Int32) {j : Nat} : ∀ n, (j < 5 ∨ 5 + n ≤ j) → setlF w z c n j = c j
  | 0, _ => rfl
  | n + 1, h => by
    unfold setlF
    rw [upd_ne _ _ (by omega)]; exact setlF_o w z c n (by omega)
theorem setl_eq {nq : Nat} (hn : nq ≤ 5) {c : Nat → Int32} {z : Nat} (hz : z < 32) (hs : subB z (thatAre nq c (nI 1))) : ∀ n, n ≤ nq → setlF (thatAre nq c (nI 1)) z c n = settleF z c n
  | 0, _ => rfl
  | n + 1, h => by
    have ih := setl_eq hn hz hs n (by omega)
    have ht := has_thatAre (c := c) (s := nI 1) (nq := nq) (q := n) hn (by omega)
    have e5 : settleF z c n (5 + n) = c (5 + n) := by rw [← ih]; exact setlF_o _ _ _ n (by omega)
    unfold setlF settleF
    rw [ih, e5]
    by_cases b1 : c (5 + n) = nI 1
    · rw [if_pos b1]
      by_cases bz : hasB z n
      · rw [if_pos bz, if_pos bz]
      · rw [if_neg bz, if_neg bz, if_pos (ht.mpr ⟨by omega, b1⟩)]
    · rw [if_neg b1, if_neg (fun q => b1 (ht.mp (subB_h z hz _ (bts_le hn) hs n (by omega) q)).2), if_neg (fun q => b1 (ht.mp q).2), ← e5, upd_id]
theorem Fr_setl {P : Nat → Nat → Nat} {nd : Nat} {c : Nat → Int32} {w z t : Nat} (h : Fr P nd c t) : ∀ n, n ≤ 5 → Fr P nd (setlF w z c n) t
  | 0, _ => h
  | n + 1, hn => Fr_upd (Fr_setl h n (by omega)) (by omega) (by omega)
/-! what chance has happen, as a doing that is told -/
def chT (x : Nat) : Nat := if x < 5 then 100 + x else if x < 10 then 195 + x else if x < 13 then 302 + 10 * (x - 10) else 0
theorem chT_do {P : Nat → Nat → Nat} {np nq nd : Nat} {c : Nat → Int32} : ∀ x, x < 24 → doF P np nq nd c (chT x / 100) (chT x / 10 % 10) (chT x % 10) = chanceF P np nq nd c x := by
  intro x hx
  unfold chanceF
  by_cases h5 : x < 5
  · have e1 : chT x / 100 = 1 := by unfold chT; rw [if_pos h5]; omega
    have e2 : chT x / 10 % 10 = 0 := by unfold chT; rw [if_pos h5]; omega
    have e3 : chT x % 10 = x := by unfold chT; rw [if_pos h5]; omega
    rw [e1, e2, e3, if_pos h5]
    by_cases q : x < nq
    · rw [if_pos q, do1f q]
    · rw [if_neg q, doF_no (do1n q)]
  · rw [if_neg h5]
    by_cases h10 : x < 10
    · have e1 : chT x / 100 = 2 := by unfold chT; rw [if_neg h5, if_pos h10]; omega
      have e2 : chT x / 10 % 10 = 0 := by unfold chT; rw [if_neg h5, if_pos h10]; omega
      have e3 : chT x % 10 = x - 5 := by unfold chT; rw [if_neg h5, if_pos h10]; omega
      rw [e1, e2, e3, if_pos h10]
      by_cases q : x - 5 < nq
      · rw [if_pos q, do2f q]
      · rw [if_neg q, doF_no (do2n q)]
    · rw [if_neg h10]
      by_cases h13 : x < 13
      · have e1 : chT x / 100 = 3 := by unfold chT; rw [if_neg h5, if_neg h10, if_pos h13]; omega
        have e2 : chT x / 10 % 10 = x - 10 := by unfold chT; rw [if_neg h5, if_neg h10, if_pos h13]; omega
        have e3 : chT x % 10 = 2 := by unfold chT; rw [if_neg h5, if_neg h10, if_pos h13]; omega
        rw [e1, e2, e3, if_pos h13]
        by_cases q : x - 10 < np
        · rw [if_pos q, do3f (do3i.mpr ⟨q, by decide⟩)]
        · rw [if_neg q, doF_no (do3n q)]
      · have e1 : chT x = 0 := by unfold chT; rw [if_neg h5, if_neg h10, if_neg h13]
        rw [e1, if_neg h13]; exact do0f
theorem Fr_do {P : Nat → Nat → Nat} {np nq nd : Nat} (hP : WFP np nq nd P) {c : Nat → Int32} {t : Nat} (h : Fr P nd c t) (ht : t < 2 ^ 20) (x y z : Nat) : ∃ t2, t2 ≤ t + 1 ∧ Fr P nd (doF P np nq nd c x y z) t2 := by
  have h3 := hP.1
  unfold doF
  split
  · rename_i ok
    split
    · rename_i e
      rcases ok with ⟨_, hy, _⟩ | ⟨w, _⟩ | ⟨hy, w⟩
      · exact ⟨t, by omega, Fr_pay h (by omega)⟩
      · omega
      · rcases w with ⟨w, _⟩ | ⟨w, _⟩ | ⟨w, _⟩ | ⟨w, _⟩ <;> omega
    · split
      · exact ⟨t + 1, Nat.le_refl _, Fr_pass hP h ht⟩
      · split
        · rename_i e3 e0 e1
          rcases ok with ⟨w, _⟩ | ⟨w, _⟩ | ⟨hy, w⟩
          · omega
          · omega
          · rcases w with ⟨w, _⟩ | ⟨_, hz, _⟩ | ⟨w, _⟩ | ⟨w, _⟩
            · omega
            · have ho := (hP.2.1 z hz).1
              exact ⟨t, by omega, Fr_pledge h (by omega) (by omega)⟩
            · omega
            · omega
        · split
          · rename_i e3 e0 e1 e2
            rcases ok with ⟨w, _⟩ | ⟨w, _⟩ | ⟨hy, w⟩
            · omega
            · omega
            · rcases w with ⟨w, _⟩ | ⟨w, _⟩ | ⟨_, hz, _⟩ | ⟨w, _⟩
              · omega
              · omega
              · have ho := (hP.2.1 z hz).1
                exact ⟨t, by omega, Fr_redeem h (by omega) (by omega)⟩
              · omega
          · exact ⟨t, by omega, h⟩
  · exact ⟨t, by omega, h⟩
theorem sumP_s (c : Nat → Int32) (x : Int32) (p : Nat) : x + sumP c p + c (2 + p) = x + sumP c (p + 1) := by
  show _ = x + (sumP c p + c (2 + p))
  rw [Int32.add_assoc]
theorem w1000 {n k : Nat} (h : k < n) : 1000 ^ (n - k) / 1000 = 1000 ^ (n - 1 - k) := by
  rw [show n - k = (n - 1 - k) + 1 by omega, Nat.pow_succ, Nat.mul_div_cancel _ (by decide)]
theorem jrow {w : Int64} {k : Nat} (h : 1 ≤ k ∧ k ≤ 1000000000000) : (lN 0 ≤ w ∧ w ≤ lN k - lN 1) ↔ (0 ≤ w ∧ w < lN k) := by
  rw [lN_sub h.1]
  have e : (w ≤ lN (k - 1)) ↔ (w < lN k) := by
    rw [Int64.le_iff_toInt_le, Int64.lt_iff_toInt_lt, pk_lT (by omega), pk_lT (by omega)]
    constructor <;> intro q <;> omega
  rw [e]; exact Iff.rfl
