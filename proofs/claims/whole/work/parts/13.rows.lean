/-! rows written one place after another -/
def wrG (f : Nat → Int32) (o : Nat) (v : Nat → Int32) : Nat → Nat → Int32
  | 0 => f
  | i + 1 => upd (wrG f o v i) (o + i) (v i)
theorem wrG_at (f : Nat → Int32) (o : Nat) (v : Nat → Int32) (j : Nat) : ∀ n, wrG f o v n j = if o ≤ j ∧ j < o + n then v (j - o) else f j
  | 0 => by rw [if_neg (by omega)]; rfl
  | n + 1 => by
    show upd (wrG f o v n) (o + n) (v n) j = _
    by_cases h : j = o + n
    · subst h
      rw [upd_self, if_pos (by omega), Nat.add_sub_cancel_left]
    · rw [upd_ne _ _ h, wrG_at f o v j n]
      by_cases q : o ≤ j ∧ j < o + n
      · rw [if_pos q, if_pos (by omega)]
      · rw [if_neg q, if_neg (by omega)]
/-- the k-th of rows of 20 -/
def saveF (f c : Nat → Int32) (k : Nat) : Nat → Int32 := fun j => if 20 * k ≤ j ∧ j < 20 * k + 20 then c (j - 20 * k) else f j
def loadF (f : Nat → Int32) (k : Nat) : Nat → Int32 := fun j => f (20 * k + j)
theorem wrG_save (f c : Nat → Int32) (k : Nat) : wrG f (20 * k) c 20 = saveF f c k := by
  funext j; rw [wrG_at]; rfl
/-- a new shop -/
def beginF (np : Nat) (t : Nat) (pu : Nat → Nat) : Nat → Int32 := fun j => if j = 0 then nI (4 * t) else if 2 ≤ j ∧ j < 2 + np then nI (pu (j - 2)) else nI 0
theorem loadF_save (f c : Nat → Int32) (k j : Nat) (h : j < 20) : loadF (saveF f c k) k j = c j := by
  unfold loadF saveF; rw [if_pos (by omega), Nat.add_sub_cancel_left]
def oI : Option Nat → Int32
  | none => (-9)
  | some k => nI k
/-- the had quality of most worth, the least of like ones -/
def dear (P : Nat → Nat → Nat) (c : Nat → Int32) (a : Int32) : Nat → Option Nat
  | 0 => none
  | q + 1 => match dear P c a q with
    | none => if nI (P 0 q) = a ∧ c (5 + q) = nI 0 then some q else none
    | some b => if (nI (P 0 q) = a ∧ c (5 + q) = nI 0) ∧ P 1 b < P 1 q then some q else some b
theorem dear_lt (P : Nat → Nat → Nat) (c : Nat → Int32) (a : Int32) : ∀ n k, dear P c a n = some k → k < n
  | 0, k, h => by simp [dear] at h
  | q + 1, k, h => by
    unfold dear at h
    split at h
    · split at h
      · injection h with h; omega
      · cases h
    · rename_i b hb
      have := dear_lt P c a q b hb
      split at h <;> (injection h with h; omega)
/-- doings told by three figures -/
abbrev doOK (P : Nat → Nat → Nat) (np nq nd : Nat) (c : Nat → Int32) (x y z : Nat) : Prop :=
  (x = 3 ∧ y < np ∧ 1 ≤ z) ∨ (x = 5 ∧ y < np ∧ nI z ≤ c (2 + y)) ∨ (y = 0 ∧ ((x = 0 ∧ z = 0) ∨ (x = 1 ∧ z < nq ∧ canP P c z) ∨ (x = 2 ∧ z < nq ∧ canR P c z) ∨ (x = 4 ∧ z < nd ∧ c (15 + z) = nI 1)))
def doF (P : Nat → Nat → Nat) (np nq nd : Nat) (c : Nat → Int32) (x y z : Nat) : Nat → Int32 :=
  if doOK P np nq nd c x y z then (if x = 3 then payF c y (nI z) else if x = 0 then passF P nq nd c else if x = 1 then pledgeF P c z else if x = 2 then redeemF P c z else c) else c
/-- what chance has happen -/
def chanceF (P : Nat → Nat → Nat) (np nq nd : Nat) (c : Nat → Int32) (t : Nat) : Nat → Int32 :=
  if t < 5 then (if t < nq then tryP P c t else c) else if t < 10 then (if t - 5 < nq then tryR P c (t - 5) else c) else if t < 13 then (if t - 10 < np then payF c (t - 10) (nI 2) else c) else passF P nq nd c
section DO
variable {P : Nat → Nat → Nat} {np nq nd : Nat} {c : Nat → Int32} {x y z : Nat}
theorem doF_no (h : ¬ doOK P np nq nd c x y z) : doF P np nq nd c x y z = c := if_neg h
theorem do3 (hz : z < 10) (hy : y < np) : doOK P np nq nd c 3 y z ↔ okG (nI z) := by
  simp only [doOK, okG, nI_leI (show 1 < 2 ^ 31 by decide) (show z < 2 ^ 31 by omega), nI_leI (show z < 2 ^ 31 by omega) (show 9 < 2 ^ 31 by decide)]
  simp; omega
theorem do3n (hy : ¬ y < np) : ¬ doOK P np nq nd c 3 y z := by simp [doOK, hy]
theorem do5 : doOK P np nq nd c 5 y z ↔ (y < np ∧ nI z ≤ c (2 + y)) := by simp [doOK]
theorem do5f : doF P np nq nd c 5 y z = c := by simp [doF]
theorem doM (h1 : x ≠ 3) (h2 : x ≠ 5) (h3 : y ≠ 0) : ¬ doOK P np nq nd c x y z := by simp [doOK, h1, h2, h3]
theorem do0 : doOK P np nq nd c 0 0 z ↔ z = 0 := by simp [doOK]
theorem do0f : doF P np nq nd c 0 0 0 = passF P nq nd c := by
  rw [doF, if_pos (do0.mpr rfl)]; rfl
theorem do1 (hv : z < nq) : doOK P np nq nd c 1 0 z ↔ canP P c z := by simp [doOK, hv]
theorem do1n (hv : ¬ z < nq) : ¬ doOK P np nq nd c 1 0 z := by simp [doOK, hv]
theorem do1f (hv : z < nq) : doF P np nq nd c 1 0 z = tryP P c z := by
  by_cases q : canP P c z
  · rw [doF, if_pos ((do1 hv).mpr q), tryP, if_pos q]; rfl
  · rw [doF, if_neg (fun w => q ((do1 hv).mp w)), tryP, if_neg q]
theorem do2 (hv : z < nq) : doOK P np nq nd c 2 0 z ↔ canR P c z := by simp [doOK, hv]
theorem do2n (hv : ¬ z < nq) : ¬ doOK P np nq nd c 2 0 z := by simp [doOK, hv]
theorem do2f (hv : z < nq) : doF P np nq nd c 2 0 z = tryR P c z := by
  by_cases q : canR P c z
  · rw [doF, if_pos ((do2 hv).mpr q), tryR, if_pos q]; rfl
  · rw [doF, if_neg (fun w => q ((do2 hv).mp w)), tryR, if_neg q]
theorem do4 : doOK P np nq nd c 4 0 z ↔ (z < nd ∧ c (15 + z) = nI 1) := by simp [doOK]
theorem do4f : doF P np nq nd c 4 0 z = c := by simp [doF]
theorem doX (h1 : x ≠ 3) (h2 : x ≠ 5) (k0 : ¬ x = 0) (k1 : ¬ x = 1) (k2 : ¬ x = 2) (k4 : ¬ x = 4) : ¬ doOK P np nq nd c x 0 z := by simp [doOK, h1, h2, k0, k1, k2, k4]
end DO
def ringU (u : Nat) : Nat := if u + 1 < 14 then u + 1 else 0
def ringD (u : Nat) : Nat := if 0 < u then u - 1 else 13
def ringN (n : Nat) : Nat := if n < 14 then n + 1 else 14
theorem ringD_lt {u : Nat} (h : u < 14) : ringD u < 14 := by unfold ringD; split <;> omega
theorem ringU_lt {u : Nat} : ringU u < 14 := by unfold ringU; split <;> omega
abbrev fitsF (f g : Nat → Int32) (n : Nat) (k w : Int32) : Prop := ∀ i, i < n → dueF k w (f i) (f i) = g i
