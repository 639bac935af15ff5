/-! sets of qualities: those beyond the last, one after the other and all at once -/
theorem subB_big {z w n : Nat} (hz : 2 ^ n ≤ z) (hw : w < 2 ^ n) : ¬ subB z w := fun h => by
  have q : z &&& w ≤ w := Nat.and_le_right
  rw [show z &&& w = z from h] at q
  exact absurd (Nat.le_trans hz q) (Nat.not_le.mpr hw)
theorem raF_ext {P : Nat → Nat → Nat} {nq nd : Nat} {c : Nat → Int32} {k : Nat} {v : Int32} : ∀ j, 2 ^ nq ≤ j → raF P nq nd c k v j = raF P nq nd c k v (2 ^ nq) := by
  intro j hj
  induction hj with
  | refl => rfl
  | @step m hm ih =>
    have ho : ownB nq P (nI k) < 2 ^ nq := bts_lt _ _
    have e : ifPl P nq nd c k m v = none := by unfold ifPl; rw [if_neg (subB_big hm ho)]
    have e2 : raF P nq nd c k v (m + 1) = (match ifPl P nq nd c k m v with | none => raF P nq nd c k v m | some d => match raF P nq nd c k v m with | none => some (m, d) | some (b, x) => if x < d ∨ (d = x ∧ pop5 m < pop5 b) then some (m, d) else some (b, x)) := rfl
    rw [e] at e2
    exact e2.trans ih
theorem slE_ext {P : Nat → Nat → Nat} {nq nd : Nat} {c : Nat → Int32} {m x : Nat} : ∀ j, 2 ^ nq ≤ j → slE P nq nd c m x j = slE P nq nd c m x (2 ^ nq) := by
  intro j hj
  induction hj with
  | refl => rfl
  | @step z hz ih =>
    have ho : thatAre nq c (nI 1) < 2 ^ nq := bts_lt _ _
    show slE P nq nd c m x z + (if subB z (thatAre nq c (nI 1)) then _ else 0) = _
    rw [if_neg (subB_big hz ho), Nat.add_zero]; exact ih
theorem pow2_32 {n : Nat} (h : n ≤ 5) : 2 ^ n ≤ 32 := Nat.pow_le_pow_right (by decide) h
theorem subB_and {z a b : Nat} : subB z (a &&& b) ↔ subB z a ∧ subB z b := by
  constructor
  · intro h
    have h1 : z &&& (a &&& b) = z := h
    constructor
    · show z &&& a = z
      calc z &&& a = (z &&& (a &&& b)) &&& a := by rw [h1]
        _ = z &&& (a &&& b) := by rw [Nat.and_assoc, Nat.and_assoc, Nat.and_comm b a, ← Nat.and_assoc a a b, Nat.and_self]
        _ = z := h1
    · show z &&& b = z
      calc z &&& b = (z &&& (a &&& b)) &&& b := by rw [h1]
        _ = z &&& (a &&& b) := by rw [Nat.and_assoc, Nat.and_assoc, Nat.and_self]
        _ = z := h1
  · rintro ⟨h1, h2⟩
    show z &&& (a &&& b) = z
    rw [← Nat.and_assoc, show z &&& a = z from h1]; exact h2
theorem subB_c : ∀ z, z < 32 → ∀ w, w < 32 → (∀ q, q < 5 → hasB z q → hasB w q) → subB z w := by decide +kernel
theorem has_thatAre {nq : Nat} {c : Nat → Int32} {s : Int32} {q : Nat} (hn : nq ≤ 5) (hq : q < 5) : hasB (thatAre nq c s) q ↔ (q < nq ∧ c (5 + q) = s) := by
  have := hasB_bts (n := nq) (p := fun q => decide (c (5 + q) = s)) hn hq
  rw [decide_eq_true_iff] at this
  exact this
theorem has_ownB {nq : Nat} {P : Nat → Nat → Nat} {a : Int32} {q : Nat} (hn : nq ≤ 5) (hq : q < 5) : hasB (ownB nq P a) q ↔ (q < nq ∧ nI (P 0 q) = a) := by
  have := hasB_bts (n := nq) (p := fun q => decide (nI (P 0 q) = a)) hn hq
  rw [decide_eq_true_iff] at this
  exact this
def sumW (P : Nat → Nat → Nat) (z : Nat) : Nat → Nat
  | 0 => 0
  | q + 1 => sumW P z q + (if hasB z q then P 1 q else 0)
def plG (P : Nat → Nat → Nat) (z : Nat) (c : Nat → Int32) : Nat → Nat → Int32
  | 0 => c
  | q + 1 => if hasB z q then pledgeF P (plG P z c q) q else plG P z c q
theorem pl_at0 (P : Nat → Nat → Nat) (c : Nat → Int32) (q : Nat) : pledgeF P c q 0 = c 0 - nI (P 1 q) := by
  unfold pledgeF; rw [upd_ne _ _ (by omega), upd_ne _ _ (by omega), upd_self]
theorem pl_at1 (P : Nat → Nat → Nat) (c : Nat → Int32) (q : Nat) : pledgeF P c q 1 = c 1 := by
  unfold pledgeF; rw [upd_ne _ _ (by omega), upd_ne _ _ (by omega), upd_ne _ _ (by omega), payF_ne _ _ (by omega)]
theorem pl_at5 {P : Nat → Nat → Nat} {c : Nat → Int32} {q j : Nat} (ho : P 0 q < 3) (hj : j < 5) (hjq : j ≠ q) : pledgeF P c q (5 + j) = c (5 + j) := by
  unfold pledgeF; rw [upd_ne _ _ (by omega), upd_ne _ _ (by omega), upd_ne _ _ (by omega), payF_ne _ _ (by omega)]
theorem pl_at5s {P : Nat → Nat → Nat} {c : Nat → Int32} {q : Nat} : pledgeF P c q (5 + q) = nI 1 := by
  unfold pledgeF; rw [upd_ne _ _ (by omega), upd_self]
theorem pl_at2 {P : Nat → Nat → Nat} {c : Nat → Int32} {q k : Nat} (hk3 : k < 3) (hk : P 0 q = k) : pledgeF P c q (2 + k) = c (2 + k) + nI (P 1 q) := by
  unfold pledgeF; rw [upd_ne _ _ (by omega), upd_ne _ _ (by omega), upd_ne _ _ (by omega), hk]; unfold payF; rw [upd_self]
section PLG
variable {np nq nd : Nat} {P : Nat → Nat → Nat} {c : Nat → Int32} {z : Nat}
theorem plG_5 (hW : WFP np nq nd P) (hz : ∀ q, q < 5 → hasB z q → q < nq) {j : Nat} (hj : j < 5) : ∀ n, n ≤ j → plG P z c n (5 + j) = c (5 + j)
  | 0, _ => rfl
  | n + 1, h => by
    have ih := plG_5 hW hz hj n (by omega)
    unfold plG
    split
    · rename_i hb
      have hn := hz n (by omega) hb
      have ho := (hW.2.1 n hn).1
      have hp := hW.1.1
      rw [pl_at5 (by omega) hj (by omega)]; exact ih
    · exact ih
theorem plG_0 {T : Nat} (hT : c 0 = nI T) : ∀ n, sumW P z n ≤ T → plG P z c n 0 = nI (T - sumW P z n)
  | 0, _ => by show c 0 = _; rw [hT]; rfl
  | n + 1, h => by
    unfold sumW at h ⊢
    unfold plG
    by_cases hb : hasB z n
    · rw [if_pos hb] at h ⊢
      rw [if_pos hb, pl_at0, plG_0 hT n (by omega), pk_sub (by omega), Nat.sub_sub]
    · rw [if_neg hb] at h ⊢
      rw [if_neg hb, plG_0 hT n (by omega)]; rfl
theorem plG_2 {k : Nat} (hk : k < 3) (hz : ∀ q, q < 5 → hasB z q → P 0 q = k) : ∀ n, n ≤ 5 → plG P z c n (2 + k) = c (2 + k) + nI (sumW P z n)
  | 0, _ => by show c (2 + k) = c (2 + k) + nI 0; rw [add_0]
  | n + 1, h => by
    have ih := plG_2 hk hz n (by omega)
    unfold plG sumW
    by_cases hb : hasB z n
    · rw [if_pos hb, if_pos hb, pl_at2 hk (hz n (by omega) hb), ih, Int32.add_assoc, nI_add]
    · rw [if_neg hb, if_neg hb]; exact ih
theorem plA_t (hW : WFP np nq nd P) (hz : ∀ q, q < 5 → hasB z q → q < nq) {T : Nat} (hT : c 0 = nI T) (hT2 : T < 2 ^ 30) : ∀ n, n ≤ 5 → (∀ q, q < n → hasB z q → c (5 + q) = nI 0) → sumW P z n ≤ T → plA P z c n = some (plG P z c n)
  | 0, _, _, _ => rfl
  | n + 1, h, h1, h2 => by
    have h2' : sumW P z n + (if hasB z n then P 1 n else 0) ≤ T := h2
    have ih := plA_t hW hz hT hT2 n (by omega) (fun q hq => h1 q (by omega)) (by omega)
    show (match plA P z c n with | none => none | some g => if hasB z n then (if canP P g n then some (pledgeF P g n) else none) else some g) = _
    rw [ih]
    show (if hasB z n then (if canP P (plG P z c n) n then some (pledgeF P (plG P z c n) n) else none) else some (plG P z c n)) = some (plG P z c (n + 1))
    have e : plG P z c (n + 1) = if hasB z n then pledgeF P (plG P z c n) n else plG P z c n := rfl
    by_cases hb : hasB z n
    · rw [if_pos hb] at h2'
      have hn := hz n (by omega) hb
      have h9 := (hW.2.1 n hn).2.2.1
      have hc : canP P (plG P z c n) n := ⟨by rw [plG_5 hW hz (by omega) n (Nat.le_refl _)]; exact h1 n (by omega) hb, by rw [plG_0 hT n (by omega)]; exact nI_le (by omega) (by omega)⟩
      rw [if_pos hb, if_pos hc, e, if_pos hb]
    · rw [if_neg hb, e, if_neg hb]
theorem plA_s (hW : WFP np nq nd P) (hz : ∀ q, q < 5 → hasB z q → q < nq) {T : Nat} (hT : c 0 = nI T) (hT2 : T < 2 ^ 30) : ∀ n, n ≤ 5 → ∀ g, plA P z c n = some g → (∀ q, q < n → hasB z q → c (5 + q) = nI 0) ∧ sumW P z n ≤ T
  | 0, _, _, _ => ⟨fun q hq => absurd hq (Nat.not_lt_zero _), Nat.zero_le _⟩
  | n + 1, h, g, hg => by
    have e : plA P z c (n + 1) = (match plA P z c n with | none => none | some g => if hasB z n then (if canP P g n then some (pledgeF P g n) else none) else some g) := rfl
    cases hn : plA P z c n with
    | none => rw [e, hn] at hg; cases hg
    | some g1 =>
      have ih := plA_s hW hz hT hT2 n (by omega) g1 hn
      have eg := plA_t hW hz hT hT2 n (by omega) ih.1 ih.2
      have eg1 : g1 = plG P z c n := Option.some.inj (hn.symm.trans eg)
      rw [e, hn] at hg
      have hg : (if hasB z n then (if canP P g1 n then some (pledgeF P g1 n) else none) else some g1) = some g := hg
      by_cases hb : hasB z n
      · rw [if_pos hb] at hg
        by_cases hc : canP P g1 n
        · have hn5 := hz n (by omega) hb
          have h9 := (hW.2.1 n hn5).2.2.1
          obtain ⟨c1, c2⟩ := hc
          rw [eg1, plG_5 hW hz (by omega) n (Nat.le_refl _)] at c1
          rw [eg1, plG_0 hT n ih.2, nI_leI (by omega) (by omega)] at c2
          refine ⟨fun q hq hbq => ?_, ?_⟩
          · rcases Nat.lt_succ_iff_lt_or_eq.mp hq with r | r
            · exact ih.1 q r hbq
            · rw [r]; exact c1
          · show sumW P z n + (if hasB z n then P 1 n else 0) ≤ T
            rw [if_pos hb]; have := ih.2; omega
        · rw [if_neg hc] at hg; cases hg
      · refine ⟨fun q hq hbq => ?_, ?_⟩
        · rcases Nat.lt_succ_iff_lt_or_eq.mp hq with r | r
          · exact ih.1 q r hbq
          · rw [r] at hbq; exact absurd hbq hb
        · show sumW P z n + (if hasB z n then P 1 n else 0) ≤ T
          rw [if_neg hb]; exact ih.2
theorem plG_up (hz : ∀ q, q < 5 → hasB z q → q < nq) : ∀ n, nq ≤ n → n ≤ 5 → plG P z c n = plG P z c nq ∧ sumW P z n = sumW P z nq := by
  intro n hn
  induction hn with
  | refl => intro _; exact ⟨rfl, rfl⟩
  | @step m hm ih =>
    intro h5
    have hb : ¬ hasB z m := fun q => by have := hz m (by omega) q; have : nq ≤ m := hm; omega
    have i := ih (by omega)
    refine ⟨?_, ?_⟩
    · show (if hasB z m then pledgeF P (plG P z c m) m else plG P z c m) = _
      rw [if_neg hb]; exact i.1
    · show sumW P z m + (if hasB z m then P 1 m else 0) = _
      rw [if_neg hb]; exact i.2
/-- what the reference asks of a set -/
theorem ifPl_t (hW : WFP np nq nd P) {k T : Nat} (hk : k < np) (hT : c 0 = nI T) (hT2 : T < 2 ^ 30) {v : Int32} (h32 : z < 32) (h1 : subB z (thatAre nq c (nI 0) &&& ownB nq P (nI k))) (h2 : sumW P z nq ≤ T) (h3 : v ≤ c (2 + k) + nI (sumW P z nq)) :
    ifPl P nq nd c k z v = some (pop5 (deedsThat nd (passN P nq nd (plG P z c nq) 20) (nI 1) &&& deedsB nd P (nI k))) := by
  obtain ⟨hn3, hn5, -⟩ := hW.1
  obtain ⟨ha, ho⟩ := subB_and.mp h1
  have hO : ∀ q, q < 5 → hasB z q → q < nq ∧ nI (P 0 q) = nI k := fun q hq hb => (has_ownB hn5 hq).mp (subB_h z h32 _ (bts_le hn5) ho q hq hb)
  have hA : ∀ q, q < 5 → hasB z q → q < nq ∧ c (5 + q) = nI 0 := fun q hq hb => (has_thatAre hn5 hq).mp (subB_h z h32 _ (bts_le hn5) ha q hq hb)
  have hz : ∀ q, q < 5 → hasB z q → q < nq := fun q hq hb => (hO q hq hb).1
  have hzk : ∀ q, q < 5 → hasB z q → P 0 q = k := fun q hq hb => by
    have h := hO q hq hb
    have := (hW.2.1 q h.1).1
    exact (nI_eq (by omega) (by omega)).mp h.2
  have up := plG_up (c := c) (P := P) hz 5 hn5 (Nat.le_refl _)
  have e : plA P z c 5 = some (plG P z c nq) := by
    rw [plA_t hW hz hT hT2 5 (Nat.le_refl _) (fun q hq hb => (hA q hq hb).2) (by rw [up.2]; exact h2), up.1]
  unfold ifPl
  rw [if_pos ho, e]
  show (if v ≤ plG P z c nq (2 + k) then _ else none) = _
  rw [plG_2 (by omega) hzk nq hn5, if_pos h3]
theorem ifPl_f (hW : WFP np nq nd P) {k T : Nat} (hk : k < np) (hT : c 0 = nI T) (hT2 : T < 2 ^ 30) {v : Int32} (h32 : z < 32) (h : ¬ (subB z (thatAre nq c (nI 0) &&& ownB nq P (nI k)) ∧ sumW P z nq ≤ T ∧ v ≤ c (2 + k) + nI (sumW P z nq))) :
    ifPl P nq nd c k z v = none := by
  obtain ⟨hn3, hn5, -⟩ := hW.1
  unfold ifPl
  by_cases ho : subB z (ownB nq P (nI k))
  · rw [if_pos ho]
    have hO : ∀ q, q < 5 → hasB z q → q < nq ∧ nI (P 0 q) = nI k := fun q hq hb => (has_ownB hn5 hq).mp (subB_h z h32 _ (bts_le hn5) ho q hq hb)
    have hz : ∀ q, q < 5 → hasB z q → q < nq := fun q hq hb => (hO q hq hb).1
    have hzk : ∀ q, q < 5 → hasB z q → P 0 q = k := fun q hq hb => by
      have h := hO q hq hb
      have := (hW.2.1 q h.1).1
      exact (nI_eq (by omega) (by omega)).mp h.2
    cases e : plA P z c 5 with
    | none => rfl
    | some g =>
      have hs := plA_s hW hz hT hT2 5 (Nat.le_refl _) g e
      have up := plG_up (c := c) (P := P) hz 5 hn5 (Nat.le_refl _)
      have eg : g = plG P z c 5 := Option.some.inj (e.symm.trans (plA_t hW hz hT hT2 5 (Nat.le_refl _) hs.1 hs.2))
      show (if v ≤ g (2 + k) then _ else none) = none
      rw [if_neg]
      intro hv
      rw [eg, up.1, plG_2 (by omega) hzk nq hn5] at hv
      refine h ⟨subB_and.mpr ⟨subB_c z h32 _ (bts_le hn5) (fun q hq hb => (has_thatAre hn5 hq).mpr ⟨hz q hq hb, hs.1 q hq hb⟩), ho⟩, ?_, hv⟩
      rw [← up.2]; exact hs.2
  · rw [if_neg ho]
end PLG
theorem sumW_le {np nq nd : Nat} {P : Nat → Nat → Nat} (hW : WFP np nq nd P) {z : Nat} : ∀ n, n ≤ nq → sumW P z n ≤ 9 * n
  | 0, _ => Nat.le_refl _
  | n + 1, h => by
    have ih := sumW_le hW (z := z) n (by omega)
    have h9 := (hW.2.1 n (by omega)).2.2.1
    unfold sumW
    split <;> omega
theorem Fr_plG {np nq nd : Nat} {P : Nat → Nat → Nat} (hW : WFP np nq nd P) {c : Nat → Int32} {z t : Nat} (h : Fr P nd c t) : ∀ n, n ≤ nq → Fr P nd (plG P z c n) t
  | 0, _ => h
  | n + 1, hn => by
    have ih := Fr_plG hW h (z := z) n (by omega)
    have ho := (hW.2.1 n (by omega)).1
    have h3 := hW.1
    unfold plG
    split
    · exact Fr_pledge ih (by omega) (by omega)
    · exact ih
/-! the had quality of most worth, sought from the last one on -/
def dearT (P : Nat → Nat → Nat) (c : Nat → Int32) (a : Int32) (nq : Nat) : Nat → Option Nat
  | 0 => none
  | j + 1 => match dearT P c a nq j with
    | none => if nI (P 0 (nq - 1 - j)) = a ∧ c (5 + (nq - 1 - j)) = nI 0 then some (nq - 1 - j) else none
    | some b => if (nI (P 0 (nq - 1 - j)) = a ∧ c (5 + (nq - 1 - j)) = nI 0) ∧ P 1 b ≤ P 1 (nq - 1 - j) then some (nq - 1 - j) else some b
abbrev isD (P : Nat → Nat → Nat) (c : Nat → Int32) (a : Int32) (q : Nat) : Prop := nI (P 0 q) = a ∧ c (5 + q) = nI 0
theorem dear_spec (P : Nat → Nat → Nat) (c : Nat → Int32) (a : Int32) : ∀ n, (∀ b, dear P c a n = some b → b < n ∧ isD P c a b ∧ ∀ q, q < n → isD P c a q → P 1 q ≤ P 1 b ∧ (q < b → P 1 q < P 1 b)) ∧ (dear P c a n = none → ∀ q, q < n → ¬ isD P c a q)
  | 0 => ⟨fun b h => (by cases h), fun _ q hq => absurd hq (Nat.not_lt_zero _)⟩
  | n + 1 => by
    have ih := dear_spec P c a n
    have e : dear P c a (n + 1) = (match dear P c a n with | none => if isD P c a n then some n else none | some b => if isD P c a n ∧ P 1 b < P 1 n then some n else some b) := rfl
    cases hd : dear P c a n with
    | none =>
      rw [hd] at e
      have e : dear P c a (n + 1) = if isD P c a n then some n else none := e
      have i2 := ih.2 hd
      by_cases hi : isD P c a n
      · rw [if_pos hi] at e
        refine ⟨fun b hb => ?_, fun h => by rw [e] at h; cases h⟩
        rw [e] at hb
        obtain rfl := Option.some.inj hb
        refine ⟨Nat.lt_succ_self _, hi, fun q hq hqi => ?_⟩
        rcases Nat.lt_succ_iff_lt_or_eq.mp hq with r | r
        · exact absurd hqi (i2 q r)
        · subst r; exact ⟨Nat.le_refl _, fun h => absurd h (Nat.lt_irrefl _)⟩
      · rw [if_neg hi] at e
        refine ⟨fun b hb => (by rw [e] at hb; cases hb), fun _ q hq => ?_⟩
        rcases Nat.lt_succ_iff_lt_or_eq.mp hq with r | r
        · exact i2 q r
        · rw [r]; exact hi
    | some b0 =>
      rw [hd] at e
      have e : dear P c a (n + 1) = if isD P c a n ∧ P 1 b0 < P 1 n then some n else some b0 := e
      obtain ⟨j1, j2, j3⟩ := ih.1 b0 hd
      by_cases hi : isD P c a n ∧ P 1 b0 < P 1 n
      · rw [if_pos hi] at e
        refine ⟨fun b hb => ?_, fun h => by rw [e] at h; cases h⟩
        rw [e] at hb
        obtain rfl := Option.some.inj hb
        refine ⟨Nat.lt_succ_self _, hi.1, fun q hq hqi => ?_⟩
        rcases Nat.lt_succ_iff_lt_or_eq.mp hq with r | r
        · have := j3 q r hqi; exact ⟨by omega, fun _ => by omega⟩
        · subst r; exact ⟨Nat.le_refl _, fun h => absurd h (Nat.lt_irrefl _)⟩
      · rw [if_neg hi] at e
        refine ⟨fun b hb => ?_, fun h => by rw [e] at h; cases h⟩
        rw [e] at hb
        obtain rfl := Option.some.inj hb
        refine ⟨by omega, j2, fun q hq hqi => ?_⟩
        rcases Nat.lt_succ_iff_lt_or_eq.mp hq with r | r
        · exact j3 q r hqi
        · subst r
          exact ⟨Nat.not_lt.mp (fun w => hi ⟨hqi, w⟩), fun h => by omega⟩
theorem dearT_spec (P : Nat → Nat → Nat) (c : Nat → Int32) (a : Int32) (nq : Nat) : ∀ j, j ≤ nq → (∀ b, dearT P c a nq j = some b → nq - j ≤ b ∧ b < nq ∧ isD P c a b ∧ ∀ q, nq - j ≤ q → q < nq → isD P c a q → P 1 q ≤ P 1 b ∧ (q < b → P 1 q < P 1 b)) ∧ (dearT P c a nq j = none → ∀ q, nq - j ≤ q → q < nq → ¬ isD P c a q)
  | 0, _ => ⟨fun b h => (by cases h), fun _ q hq hq2 => absurd hq2 (by omega)⟩
  | j + 1, hj => by
    have ih := dearT_spec P c a nq j (by omega)
    obtain ⟨n, hn⟩ : ∃ n, n = nq - 1 - j := ⟨_, rfl⟩
    have e : dearT P c a nq (j + 1) = (match dearT P c a nq j with | none => if isD P c a (nq - 1 - j) then some (nq - 1 - j) else none | some b => if isD P c a (nq - 1 - j) ∧ P 1 b ≤ P 1 (nq - 1 - j) then some (nq - 1 - j) else some b) := rfl
    rw [← hn] at e
    cases hd : dearT P c a nq j with
    | none =>
      rw [hd] at e
      have e : dearT P c a nq (j + 1) = if isD P c a n then some n else none := e
      have i2 := ih.2 hd
      by_cases hi : isD P c a n
      · rw [if_pos hi] at e
        refine ⟨fun b hb => ?_, fun h => by rw [e] at h; cases h⟩
        rw [e] at hb
        obtain rfl := Option.some.inj hb
        refine ⟨by omega, by omega, hi, fun q hq hq2 hqi => ?_⟩
        rcases Nat.eq_or_lt_of_le (show n ≤ q by omega) with r | r
        · subst r; exact ⟨Nat.le_refl _, fun h => absurd h (Nat.lt_irrefl _)⟩
        · exact absurd hqi (i2 q (by omega) hq2)
      · rw [if_neg hi] at e
        refine ⟨fun b hb => (by rw [e] at hb; cases hb), fun _ q hq hq2 => ?_⟩
        rcases Nat.eq_or_lt_of_le (show n ≤ q by omega) with r | r
        · rw [← r]; exact hi
        · exact i2 q (by omega) hq2
    | some b0 =>
      rw [hd] at e
      have e : dearT P c a nq (j + 1) = if isD P c a n ∧ P 1 b0 ≤ P 1 n then some n else some b0 := e
      obtain ⟨j0, j1, j2, j3⟩ := ih.1 b0 hd
      by_cases hi : isD P c a n ∧ P 1 b0 ≤ P 1 n
      · rw [if_pos hi] at e
        refine ⟨fun b hb => ?_, fun h => by rw [e] at h; cases h⟩
        rw [e] at hb
        obtain rfl := Option.some.inj hb
        refine ⟨by omega, by omega, hi.1, fun q hq hq2 hqi => ?_⟩
        rcases Nat.eq_or_lt_of_le (show n ≤ q by omega) with r | r
        · subst r; exact ⟨Nat.le_refl _, fun h => absurd h (Nat.lt_irrefl _)⟩
        · have := j3 q (by omega) hq2 hqi; exact ⟨by omega, fun h => by omega⟩
      · rw [if_neg hi] at e
        refine ⟨fun b hb => ?_, fun h => by rw [e] at h; cases h⟩
        rw [e] at hb
        obtain rfl := Option.some.inj hb
        refine ⟨by omega, j1, j2, fun q hq hq2 hqi => ?_⟩
        rcases Nat.eq_or_lt_of_le (show n ≤ q by omega) with r | r
        · subst r
          have : P 1 n < P 1 b0 := Nat.not_le.mp (fun w => hi ⟨hqi, w⟩)
          exact ⟨by omega, fun _ => this⟩
        · exact j3 q (by omega) hq2 hqi
theorem dearT_eq (P : Nat → Nat → Nat) (c : Nat → Int32) (a : Int32) (nq : Nat) : dearT P c a nq nq = dear P c a nq := by
  have h1 := dear_spec P c a nq
  have h2 := dearT_spec P c a nq nq (Nat.le_refl _)
  cases e1 : dear P c a nq with
  | none =>
    cases e2 : dearT P c a nq nq with
    | none => rfl
    | some b =>
      obtain ⟨-, x2, x3, -⟩ := h2.1 b e2
      exact absurd x3 (h1.2 e1 b x2)
  | some b1 =>
    obtain ⟨y1, y2, y3⟩ := h1.1 b1 e1
    cases e2 : dearT P c a nq nq with
    | none => exact absurd y2 (h2.2 e2 b1 (by omega) y1)
    | some b =>
      obtain ⟨x1, x2, x3, x4⟩ := h2.1 b e2
      have p1 := y3 b x2 x3
      have p2 := x4 b1 (by omega) y1 y2
      rw [show b = b1 from ?_]
      rcases Nat.lt_trichotomy b b1 with r | r | r
      · have := p1.2 r; omega
      · exact r
      · have := p2.2 r; omega
section DT
variable {P : Nat → Nat → Nat} {c : Nat → Int32} {a : Int32} {nq j : Nat}
theorem dearT_s (h : j < nq) : dearT P c a nq (nq - j) = (match dearT P c a nq (nq - (j + 1)) with | none => if isD P c a j then some j else none | some b => if isD P c a j ∧ P 1 b ≤ P 1 j then some j else some b) := by
  rw [show nq - j = (nq - (j + 1)) + 1 by omega]
  have en : nq - 1 - (nq - (j + 1)) = j := by omega
  show (match dearT P c a nq (nq - (j + 1)) with | none => if isD P c a (nq - 1 - (nq - (j + 1))) then some (nq - 1 - (nq - (j + 1))) else none | some b => if isD P c a (nq - 1 - (nq - (j + 1))) ∧ P 1 b ≤ P 1 (nq - 1 - (nq - (j + 1))) then some (nq - 1 - (nq - (j + 1))) else some b) = _
  rw [en]
theorem dearT_n (h : j < nq) (hi : ¬ isD P c a j) : dearT P c a nq (nq - j) = dearT P c a nq (nq - (j + 1)) := by
  rw [dearT_s h]
  cases dearT P c a nq (nq - (j + 1)) with
  | none => show (if isD P c a j then some j else none) = none; rw [if_neg hi]
  | some b => show (if isD P c a j ∧ P 1 b ≤ P 1 j then some j else some b) = some b; rw [if_neg (fun q => hi q.1)]
theorem dearT_y0 (h : j < nq) (hi : isD P c a j) (hd : dearT P c a nq (nq - (j + 1)) = none) : dearT P c a nq (nq - j) = some j := by
  rw [dearT_s h, hd]
  show (if isD P c a j then some j else none) = some j
  rw [if_pos hi]
theorem dearT_y1 {b : Nat} (h : j < nq) (hi : isD P c a j) (hd : dearT P c a nq (nq - (j + 1)) = some b) (hw : P 1 b ≤ P 1 j) : dearT P c a nq (nq - j) = some j := by
  rw [dearT_s h, hd]
  show (if isD P c a j ∧ P 1 b ≤ P 1 j then some j else some b) = some j
  rw [if_pos ⟨hi, hw⟩]
theorem dearT_y2 {b : Nat} (h : j < nq) (hd : dearT P c a nq (nq - (j + 1)) = some b) (hw : P 1 j < P 1 b) : dearT P c a nq (nq - j) = some b := by
  rw [dearT_s h, hd]
  show (if isD P c a j ∧ P 1 b ≤ P 1 j then some j else some b) = some b
  rw [if_neg (fun q => absurd q.2 (by omega))]
theorem dearT_b {i b : Nat} (h : i ≤ nq) (hd : dearT P c a nq i = some b) : b < nq := ((dearT_spec P c a nq i h).1 b hd).2.1
end DT
theorem Fr_best {np nq nd t : Nat} {P : Nat → Nat → Nat} (hP : WFP np nq nd P) {c : Nat → Int32} (h : Fr P nd c t) (a : Int32) : Fr P nd (bestF P nq c a) t := by
  have h3 := hP.1
  unfold bestF
  cases e : dear P c a nq with
  | none => exact h
  | some d =>
    have hd := dear_lt P c a nq d e
    have ho := (hP.2.1 d hd).1
    show Fr P nd (tryP P c d) t
    unfold tryP
    split
    · exact Fr_pledge h (by omega) (by omega)
    · exact h
theorem Fr_pair {np nq nd t : Nat} {P : Nat → Nat → Nat} (hP : WFP np nq nd P) {c : Nat → Int32} (h : Fr P nd c t) (a b q : Nat) : Fr P nd (pairF P nq c a b q) t := by
  have h1 : Fr P nd (if q &&& 2 ≠ 0 then bestF P nq c (nI a) else c) t := by
    split
    · exact Fr_best hP h _
    · exact h
  unfold pairF
  by_cases q1 : q &&& 1 ≠ 0
  · rw [if_pos q1]; exact Fr_best hP h1 _
  · rw [if_neg q1]; exact h1
theorem bit2 : ∀ i, i < 4 → (i &&& 2 ≠ 0 ↔ 1 < i) := by decide
theorem bit1 : ∀ i, i < 4 → (i &&& 1 ≠ 0 ↔ i % 2 = 1) := by decide
