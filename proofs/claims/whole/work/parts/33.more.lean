/-! days for the reference; its book -/
/-- outcomes stand only for days that have been -/
def Fr (P : Nat → Nat → Nat) (nd : Nat) (c : Nat → Int32) (t : Nat) : Prop := c 1 = nI t ∧ ∀ d, d < nd → t ≤ P 4 d → c (15 + d) = nI 0
theorem dayD_keep {np nq nd : Nat} {P : Nat → Nat → Nat} (hP : WFP np nq nd P) (c : Nat → Int32) {j : Nat} (hj5 : j < 5) (hj : ¬ nI (P 4 j) = c 1) : ∀ d, d ≤ nd → dayD P c d (15 + j) = c (15 + j)
  | 0, _ => rfl
  | d + 1, h => by
    unfold dayD
    split
    · rename_i q
      rw [deedF_out hP _ (by omega) (fun w => hj (by rw [w]; exact q)) hj5]; exact dayD_keep hP c hj5 hj d (by omega)
    · exact dayD_keep hP c hj5 hj d (by omega)
theorem passF_1 {P : Nat → Nat → Nat} {nq nd : Nat} (c : Nat → Int32) : passF P nq nd c 1 = c 1 + nI 1 := by
  unfold passF; rw [sellD_ne P _ nq (by omega), upd_self]
theorem passF_out {np nq nd : Nat} {P : Nat → Nat → Nat} (hP : WFP np nq nd P) (c : Nat → Int32) {j : Nat} (hj5 : j < 5) (hj : ¬ nI (P 4 j) = c 1) : passF P nq nd c (15 + j) = c (15 + j) := by
  have hq5 := hP.1.2.1
  unfold passF; rw [sellD_ne P _ nq (by omega), upd_ne _ _ (by omega)]; exact dayD_keep hP c hj5 hj nd (Nat.le_refl _)
theorem Fr_fresh {np nq nd : Nat} {P : Nat → Nat → Nat} (hP : WFP np nq nd P) {c : Nat → Int32} {t : Nat} (h : Fr P nd c t) (ht : t < 2 ^ 20) : Fresh P nd c := fun d hd q => by
  have h9 := (hP.2.2 d hd).2.1
  rw [h.1, nI_eq (by omega) (by omega)] at q
  exact h.2 d hd (by omega)
theorem Fr_pass {np nq nd : Nat} {P : Nat → Nat → Nat} (hP : WFP np nq nd P) {c : Nat → Int32} {t : Nat} (h : Fr P nd c t) (ht : t < 2 ^ 20) : Fr P nd (passF P nq nd c) (t + 1) :=
  ⟨by rw [passF_1, h.1, nI_add], fun d hd hp => by
    have h9 := (hP.2.2 d hd).2.1
    have hn := hP.1.2.2
    rw [passF_out hP c (by omega) (by rw [h.1, nI_eq (by omega) (by omega)]; omega)]
    exact h.2 d hd (by omega)⟩
theorem Fr_passN {np nq nd : Nat} {P : Nat → Nat → Nat} (hP : WFP np nq nd P) {c : Nat → Int32} {t : Nat} (h : Fr P nd c t) : ∀ n, t + n < 2 ^ 20 → Fr P nd (passN P nq nd c n) (t + n)
  | 0, _ => h
  | n + 1, hn => Fr_pass (t := t + n) hP (Fr_passN hP h n (by omega)) (by omega)
theorem Fr_upd {P : Nat → Nat → Nat} {nd : Nat} {c : Nat → Int32} {t j : Nat} {v : Int32} (h : Fr P nd c t) (h1 : j ≠ 1) (h2 : j < 15) : Fr P nd (upd c j v) t :=
  ⟨by rw [upd_ne _ _ (by omega)]; exact h.1, fun d hd hp => by rw [upd_ne _ _ (by omega)]; exact h.2 d hd hp⟩
theorem Fr_pledge {P : Nat → Nat → Nat} {nd : Nat} {c : Nat → Int32} {t q : Nat} (h : Fr P nd c t) (hq : q < 5) (ho : P 0 q < 3) : Fr P nd (pledgeF P c q) t :=
  Fr_upd (Fr_upd (Fr_upd (Fr_upd h (by omega) (by omega)) (by omega) (by omega)) (by omega) (by omega)) (by omega) (by omega)
theorem Fr_redeem {P : Nat → Nat → Nat} {nd : Nat} {c : Nat → Int32} {t q : Nat} (h : Fr P nd c t) (hq : q < 5) (ho : P 0 q < 3) : Fr P nd (redeemF P c q) t :=
  Fr_upd (Fr_upd (Fr_upd h (by omega) (by omega)) (by omega) (by omega)) (by omega) (by omega)
theorem Fr_pay {P : Nat → Nat → Nat} {nd : Nat} {c : Nat → Int32} {t p : Nat} {v : Int32} (h : Fr P nd c t) (hp : p < 3) : Fr P nd (payF c p v) t := Fr_upd h (by omega) (by omega)
theorem pl_ord (c : Nat → Int32) {k o : Nat} (hk : k < 5) (ho : o < 3) (v1 v2 v3 v4 : Int32) : upd (upd (upd (upd c (5 + k) v1) (10 + k) v2) 0 v3) (2 + o) v4 = upd (upd (upd (upd c (2 + o) v4) 0 v3) (5 + k) v1) (10 + k) v2 := by
  funext j; unfold upd; repeat' split
  all_goals first | rfl | (exfalso; omega)
theorem re_ord (c : Nat → Int32) {k o : Nat} (hk : k < 5) (ho : o < 3) (v1 v3 v4 : Int32) : upd (upd (upd c (5 + k) v1) 0 v3) (2 + o) v4 = upd (upd (upd c (2 + o) v4) 0 v3) (5 + k) v1 := by
  funext j; unfold upd; repeat' split
  all_goals first | rfl | (exfalso; omega)
/-- the book's places move on -/
def shB (bk : Nat → Int32) (i : Nat) : Nat → Int32 := fun k => if k < i then bk (k + 20) else bk k
theorem shB_0 (bk : Nat → Int32) : shB bk 0 = bk := by funext k; unfold shB; rw [if_neg (by omega)]
theorem shB_s (bk : Nat → Int32) (i : Nat) : upd (shB bk i) i (shB bk i (i + 20)) = shB bk (i + 1) := by
  funext k
  by_cases h : k = i
  · rw [h, upd_self]; unfold shB; rw [if_neg (by omega), if_pos (by omega)]
  · rw [upd_ne _ _ h]; unfold shB
    by_cases q : k < i
    · rw [if_pos q, if_pos (by omega)]
    · rw [if_neg q, if_neg (by omega)]
def baB (bk : Nat → Int32) (cnt : Nat) : Nat → Int32 := if cnt = 14 then shB bk 260 else bk
def bkN (bk : Nat → Int32) (cnt : Nat) (c : Nat → Int32) : Nat → Int32 := saveF (baB bk cnt) (mp c) (ringN cnt - 1)
theorem okS_C {a : Int32} : okS a ↔ okC a := by
  have e1 : (nI 1).toInt = 1 := nI_toInt (by decide)
  have e2 : (nI 2).toInt = 2 := nI_toInt (by decide)
  constructor
  · intro h; refine ⟨h.1, ?_⟩
    have q := h.2
    rw [Int32.lt_iff_toInt_lt, e2] at q
    rw [Int32.le_iff_toInt_le, e1]; omega
  · intro h; refine ⟨h.1, ?_⟩
    have q := h.2
    rw [Int32.le_iff_toInt_le, e1] at q
    rw [Int32.lt_iff_toInt_lt, e2]; omega
section DO6
variable {P : Nat → Nat → Nat} {np nq nd : Nat} {c : Nat → Int32} {x y z : Nat}
theorem do3i : doOK P np nq nd c 3 y z ↔ (y < np ∧ 1 ≤ z) := by simp [doOK]
theorem do3f (h : doOK P np nq nd c 3 y z) : doF P np nq nd c 3 y z = payF c y (nI z) := by rw [doF, if_pos h]; rfl
theorem do_nq (h3 : x ≠ 3) (h5 : x ≠ 5) (h4 : x ≠ 4) (h0 : x = 0 → z ≠ 0) (hv : ¬ z < nq) : ¬ doOK P np nq nd c x 0 z := by
  rintro (⟨h, _⟩ | ⟨h, _⟩ | ⟨_, ⟨h, h'⟩ | ⟨_, h', _⟩ | ⟨_, h', _⟩ | ⟨h, _⟩⟩)
  · exact h3 h
  · exact h5 h
  · exact h0 h h'
  · exact hv h'
  · exact hv h'
  · exact h4 h
theorem do_el (h3 : x ≠ 3) (h5 : x ≠ 5) (h4 : x ≠ 4) (h1 : x ≠ 1) (h2 : x ≠ 2) (h0 : x = 0 → z ≠ 0) : ¬ doOK P np nq nd c x 0 z := by
  rintro (⟨h, _⟩ | ⟨h, _⟩ | ⟨_, ⟨h, h'⟩ | ⟨h, _⟩ | ⟨h, _⟩ | ⟨h, _⟩⟩)
  · exact h3 h
  · exact h5 h
  · exact h0 h h'
  · exact h1 h
  · exact h2 h
  · exact h4 h
end DO6
def fac : Nat → Nat
  | 0 => 1
  | n + 1 => fac n * (n + 1)
