/-! numbers: a truth as an int; rows over numbers that are naturals -/
def bI (P : Prop) [Decidable P] : Int32 := if P then 1 else 0
theorem bI_t {P : Prop} [Decidable P] (h : P) : bI P = nI 1 := by simp [bI, h]; rfl
theorem bI_f {P : Prop} [Decidable P] (h : ¬ P) : bI P = nI 0 := by simp [bI, h]; rfl
theorem bI_0 {P : Prop} [Decidable P] (h : bI P = 0) : ¬ P := fun q => by simp [bI, q] at h
theorem bI_n0 {P : Prop} [Decidable P] (h : ¬ bI P = 0) : P := by
  by_cases q : P
  · exact q
  · simp [bI, q] at h
theorem bI_nar {P : Prop} [Decidable P] : narrow .boolean (.int (bI P)) = .int (bI P) := by
  by_cases q : P
  · rw [bI_t q]; decide +kernel
  · rw [bI_f q]; decide +kernel
theorem bI_vnar {P : Prop} [Decidable P] : vp_nar .boolean (bI P) = bI P := by
  by_cases q : P
  · rw [bI_t q]; decide +kernel
  · rw [bI_f q]; decide +kernel
theorem bI_iff {P R : Prop} [Decidable P] [Decidable R] (h : P ↔ R) : bI P = bI R := by
  by_cases q : P
  · rw [bI_t q, bI_t (h.mp q)]
  · rw [bI_f q, bI_f (fun r => q (h.mpr r))]
theorem nI_and (a b : Nat) : nI a &&& nI b = nI (a &&& b) := by
  apply Int32.toBitVec_inj.mp
  show (BitVec.ofNat 32 a) &&& (BitVec.ofNat 32 b) = BitVec.ofNat 32 (a &&& b)
  exact (BitVec.ofNat_and).symm
theorem nI_or (a b : Nat) : nI a ||| nI b = nI (a ||| b) := by
  apply Int32.toBitVec_inj.mp
  show (BitVec.ofNat 32 a) ||| (BitVec.ofNat 32 b) = BitVec.ofNat 32 (a ||| b)
  exact (BitVec.ofNat_or).symm
theorem nI_xor (a b : Nat) : nI a ^^^ nI b = nI (a ^^^ b) := by
  apply Int32.toBitVec_inj.mp
  show (BitVec.ofNat 32 a) ^^^ (BitVec.ofNat 32 b) = BitVec.ofNat 32 (a ^^^ b)
  exact (BitVec.ofNat_xor).symm
theorem nI_31 : ∀ q, q < 31 → ((nI q &&& (31 : Int32)).toBitVec.smod 32).toNat = q := by decide +kernel
theorem nI_shl1 {q : Nat} (h : q < 31) : nI 1 <<< (nI q &&& (31 : Int32)) = nI (2 ^ q) := by
  have h1 : 2 ^ q < 2 ^ 31 := Nat.pow_lt_pow_right (by decide) h
  rw [pk_shlN _ q (nI_31 q h) (by omega), Nat.one_mul]
theorem nI_shr {a q : Nat} (ha : a < 2 ^ 31) (h : q < 31) : nI a >>> (nI q &&& (31 : Int32)) = nI (a / 2 ^ q) := pk_shrN ha _ q (nI_31 q h)
/-- a place of a row of n -/
abbrev inR (a : Int32) (n : Nat) : Prop := 0 ≤ a ∧ a < nI n
theorem inR_dec (a : Int32) (n : Nat) : (0 ≤ a ∧ a < nI n) ↔ inR a n := Iff.rfl
theorem inR_n {a : Int32} {n : Nat} (hn : n < 2 ^ 31) (h : inR a n) : ∃ k : Nat, k < n ∧ a = nI k := by
  rcases pk_ix a hn with q | q | q
  · exact absurd h.1 (by rw [Int32.le_iff_toInt_le]; rw [Int32.lt_iff_toInt_lt] at q; omega)
  · have := h.2; rw [Int32.lt_iff_toInt_lt] at this; rw [Int32.le_iff_toInt_le] at q; omega
  · exact q
theorem inR_k {k n : Nat} (hn : n < 2 ^ 31) (h : k < n) : inR (nI k) n := ⟨nI_pos' (by omega), nI_lt h hn⟩
theorem inR_kn {k n : Nat} (hk : k < 2 ^ 31) (hn : n < 2 ^ 31) : inR (nI k) n ↔ k < n := ⟨fun h => (nI_ltI hk hn).mp h.2, inR_k hn⟩
section GN
variable {p : Program} {l : Launch} {e : Env} {R : Room} {s : State} {m : MethodId} {args : Array Value} {below : List Frame} {meth : Method} {cd : Code} {D : va_G} {cI cZ : ClassId} {A : Nat → Prop} {cells slots : Nat} {Q : State → Prop} {cc : ByteArray} {nL : Nat} {Ts : List Cond} {own : String} {ws : va_W} {pc : Nat} {lv : List (Nat × Value)} {st : List Value}
theorem g_iadd_n (hC : gCx p s m args meth cd D cI cZ A cc nL Ts own) {a b : Nat} (hdg : decode cc pc = .ok (.iadd, 1)) (k : G p l e R s m args below meth cd D A cells slots Q nL ws (pc + 1) lv (.int (nI (a + b)) :: st)) : G p l e R s m args below meth cd D A cells slots Q nL ws (pc) lv (.int (nI b) :: .int (nI a) :: st) := g_iadd hC hdg (by rw [nI_add]; exact k)
theorem g_imul_n (hC : gCx p s m args meth cd D cI cZ A cc nL Ts own) {a b : Nat} (hdg : decode cc pc = .ok (.imul, 1)) (k : G p l e R s m args below meth cd D A cells slots Q nL ws (pc + 1) lv (.int (nI (a * b)) :: st)) : G p l e R s m args below meth cd D A cells slots Q nL ws (pc) lv (.int (nI b) :: .int (nI a) :: st) := g_imul hC hdg (by rw [pk_mul]; exact k)
theorem g_isub_n (hC : gCx p s m args meth cd D cI cZ A cc nL Ts own) {a b : Nat} (h : b ≤ a) (hdg : decode cc pc = .ok (.isub, 1)) (k : G p l e R s m args below meth cd D A cells slots Q nL ws (pc + 1) lv (.int (nI (a - b)) :: st)) : G p l e R s m args below meth cd D A cells slots Q nL ws (pc) lv (.int (nI b) :: .int (nI a) :: st) := g_isub hC hdg (by rw [pk_sub h]; exact k)
theorem g_irem_n (hC : gCx p s m args meth cd D cI cZ A cc nL Ts own) {a b : Nat} (ha : a < 2 ^ 31) (h0 : 0 < b) (hb : b < 2 ^ 31) (hdg : decode cc pc = .ok (.irem, 1)) (k : G p l e R s m args below meth cd D A cells slots Q nL ws (pc + 1) lv (.int (nI (a % b)) :: st)) : G p l e R s m args below meth cd D A cells slots Q nL ws (pc) lv (.int (nI b) :: .int (nI a) :: st) := g_irem hC hdg (nI_ne0 h0 hb) (by rw [pk_rem ha h0 hb]; exact k)
theorem g_idiv_n (hC : gCx p s m args meth cd D cI cZ A cc nL Ts own) {a b : Nat} (ha : a < 2 ^ 31) (h0 : 0 < b) (hb : b < 2 ^ 31) (hdg : decode cc pc = .ok (.idiv, 1)) (k : G p l e R s m args below meth cd D A cells slots Q nL ws (pc + 1) lv (.int (nI (a / b)) :: st)) : G p l e R s m args below meth cd D A cells slots Q nL ws (pc) lv (.int (nI b) :: .int (nI a) :: st) := g_idiv hC hdg (nI_ne0 h0 hb) (by rw [pk_div ha h0 hb]; exact k)
theorem g_iand_n (hC : gCx p s m args meth cd D cI cZ A cc nL Ts own) {a b : Nat} (hdg : decode cc pc = .ok (.iand, 1)) (k : G p l e R s m args below meth cd D A cells slots Q nL ws (pc + 1) lv (.int (nI (a &&& b)) :: st)) : G p l e R s m args below meth cd D A cells slots Q nL ws (pc) lv (.int (nI b) :: .int (nI a) :: st) := g_iand hC hdg (by rw [nI_and]; exact k)
theorem g_ior_n (hC : gCx p s m args meth cd D cI cZ A cc nL Ts own) {a b : Nat} (hdg : decode cc pc = .ok (.ior, 1)) (k : G p l e R s m args below meth cd D A cells slots Q nL ws (pc + 1) lv (.int (nI (a ||| b)) :: st)) : G p l e R s m args below meth cd D A cells slots Q nL ws (pc) lv (.int (nI b) :: .int (nI a) :: st) := g_ior hC hdg (by rw [nI_or]; exact k)
theorem g_ixor_n (hC : gCx p s m args meth cd D cI cZ A cc nL Ts own) {a b : Nat} (hdg : decode cc pc = .ok (.ixor, 1)) (k : G p l e R s m args below meth cd D A cells slots Q nL ws (pc + 1) lv (.int (nI (a ^^^ b)) :: st)) : G p l e R s m args below meth cd D A cells slots Q nL ws (pc) lv (.int (nI b) :: .int (nI a) :: st) := g_ixor hC hdg (by rw [nI_xor]; exact k)
theorem g_ishr_n (hC : gCx p s m args meth cd D cI cZ A cc nL Ts own) {a b : Nat} (ha : a < 2 ^ 31) (h : b < 31) (hdg : decode cc pc = .ok (.ishr, 1)) (k : G p l e R s m args below meth cd D A cells slots Q nL ws (pc + 1) lv (.int (nI (a / 2 ^ b)) :: st)) : G p l e R s m args below meth cd D A cells slots Q nL ws (pc) lv (.int (nI b) :: .int (nI a) :: st) := g_ishr hC hdg (by rw [nI_shr ha h]; exact k)
theorem g_shl1_n (hC : gCx p s m args meth cd D cI cZ A cc nL Ts own) {b : Nat} (h : b < 31) (hdg : decode cc pc = .ok (.ishl, 1)) (k : G p l e R s m args below meth cd D A cells slots Q nL ws (pc + 1) lv (.int (nI (2 ^ b)) :: st)) : G p l e R s m args below meth cd D A cells slots Q nL ws (pc) lv (.int (nI b) :: .int (nI 1) :: st) := g_ishl hC hdg (by rw [nI_shl1 h]; exact k)
theorem g_icmp_eq_n (hC : gCx p s m args meth cd D cI cZ A cc nL Ts own) {a b : Nat} {off : Int} (ha : a < 2 ^ 31) (hb : b < 2 ^ 31) (tgt : Nat) (hdg : decode cc pc = .ok (.if_icmp .eq off, 3)) (ht : (pc : Int) + off = (tgt : Int)) (kt : a = b → G p l e R s m args below meth cd D A cells slots Q nL ws (tgt) lv (st)) (kf : a ≠ b → G p l e R s m args below meth cd D A cells slots Q nL ws (pc + 3) lv (st)) : G p l e R s m args below meth cd D A cells slots Q nL ws (pc) lv (.int (nI b) :: .int (nI a) :: st) := g_icmp_eq hC tgt hdg ht (fun q => kt ((nI_eq ha hb).mp q)) (fun q => kf (fun w => q ((nI_eq ha hb).mpr w)))
theorem g_icmp_ne_n (hC : gCx p s m args meth cd D cI cZ A cc nL Ts own) {a b : Nat} {off : Int} (ha : a < 2 ^ 31) (hb : b < 2 ^ 31) (tgt : Nat) (hdg : decode cc pc = .ok (.if_icmp .ne off, 3)) (ht : (pc : Int) + off = (tgt : Int)) (kt : a ≠ b → G p l e R s m args below meth cd D A cells slots Q nL ws (tgt) lv (st)) (kf : a = b → G p l e R s m args below meth cd D A cells slots Q nL ws (pc + 3) lv (st)) : G p l e R s m args below meth cd D A cells slots Q nL ws (pc) lv (.int (nI b) :: .int (nI a) :: st) := g_icmp_ne hC tgt hdg ht (fun q => kt (fun w => q ((nI_eq ha hb).mpr w))) (fun q => kf ((nI_eq ha hb).mp q))
theorem g_icmp_lt_n (hC : gCx p s m args meth cd D cI cZ A cc nL Ts own) {a b : Nat} {off : Int} (ha : a < 2 ^ 31) (hb : b < 2 ^ 31) (tgt : Nat) (hdg : decode cc pc = .ok (.if_icmp .lt off, 3)) (ht : (pc : Int) + off = (tgt : Int)) (kt : a < b → G p l e R s m args below meth cd D A cells slots Q nL ws (tgt) lv (st)) (kf : b ≤ a → G p l e R s m args below meth cd D A cells slots Q nL ws (pc + 3) lv (st)) : G p l e R s m args below meth cd D A cells slots Q nL ws (pc) lv (.int (nI b) :: .int (nI a) :: st) := g_icmp_lt hC tgt hdg ht (fun q => kt ((nI_ltI ha hb).mp q)) (fun q => kf (Nat.not_lt.mp (fun w => q ((nI_ltI ha hb).mpr w))))
theorem g_icmp_ge_n (hC : gCx p s m args meth cd D cI cZ A cc nL Ts own) {a b : Nat} {off : Int} (ha : a < 2 ^ 31) (hb : b < 2 ^ 31) (tgt : Nat) (hdg : decode cc pc = .ok (.if_icmp .ge off, 3)) (ht : (pc : Int) + off = (tgt : Int)) (kt : b ≤ a → G p l e R s m args below meth cd D A cells slots Q nL ws (tgt) lv (st)) (kf : a < b → G p l e R s m args below meth cd D A cells slots Q nL ws (pc + 3) lv (st)) : G p l e R s m args below meth cd D A cells slots Q nL ws (pc) lv (.int (nI b) :: .int (nI a) :: st) := g_icmp_ge hC tgt hdg ht (fun q => kt ((nI_leI hb ha).mp q)) (fun q => kf (Nat.not_le.mp (fun w => q ((nI_leI hb ha).mpr w))))
theorem g_icmp_gt_n (hC : gCx p s m args meth cd D cI cZ A cc nL Ts own) {a b : Nat} {off : Int} (ha : a < 2 ^ 31) (hb : b < 2 ^ 31) (tgt : Nat) (hdg : decode cc pc = .ok (.if_icmp .gt off, 3)) (ht : (pc : Int) + off = (tgt : Int)) (kt : b < a → G p l e R s m args below meth cd D A cells slots Q nL ws (tgt) lv (st)) (kf : a ≤ b → G p l e R s m args below meth cd D A cells slots Q nL ws (pc + 3) lv (st)) : G p l e R s m args below meth cd D A cells slots Q nL ws (pc) lv (.int (nI b) :: .int (nI a) :: st) := g_icmp_gt hC tgt hdg ht (fun q => kt ((nI_ltI hb ha).mp q)) (fun q => kf (Nat.not_lt.mp (fun w => q ((nI_ltI hb ha).mpr w))))
theorem g_icmp_le_n (hC : gCx p s m args meth cd D cI cZ A cc nL Ts own) {a b : Nat} {off : Int} (ha : a < 2 ^ 31) (hb : b < 2 ^ 31) (tgt : Nat) (hdg : decode cc pc = .ok (.if_icmp .le off, 3)) (ht : (pc : Int) + off = (tgt : Int)) (kt : a ≤ b → G p l e R s m args below meth cd D A cells slots Q nL ws (tgt) lv (st)) (kf : b < a → G p l e R s m args below meth cd D A cells slots Q nL ws (pc + 3) lv (st)) : G p l e R s m args below meth cd D A cells slots Q nL ws (pc) lv (.int (nI b) :: .int (nI a) :: st) := g_icmp_le hC tgt hdg ht (fun q => kt ((nI_leI ha hb).mp q)) (fun q => kf (Nat.not_le.mp (fun w => q ((nI_leI ha hb).mpr w))))
theorem g_if_eq_n (hC : gCx p s m args meth cd D cI cZ A cc nL Ts own) {a : Nat} {off : Int} (ha : a < 2 ^ 31) (tgt : Nat) (hdg : decode cc pc = .ok (.ifCond .eq off, 3)) (ht : (pc : Int) + off = (tgt : Int)) (kt : a = 0 → G p l e R s m args below meth cd D A cells slots Q nL ws (tgt) lv (st)) (kf : a ≠ 0 → G p l e R s m args below meth cd D A cells slots Q nL ws (pc + 3) lv (st)) : G p l e R s m args below meth cd D A cells slots Q nL ws (pc) lv (.int (nI a) :: st) := g_if_eq hC tgt hdg ht (fun q => kt ((nI_eq ha (by decide)).mp q)) (fun q => kf (fun w => q (by rw [w])))
theorem g_if_ne_n (hC : gCx p s m args meth cd D cI cZ A cc nL Ts own) {a : Nat} {off : Int} (ha : a < 2 ^ 31) (tgt : Nat) (hdg : decode cc pc = .ok (.ifCond .ne off, 3)) (ht : (pc : Int) + off = (tgt : Int)) (kt : a ≠ 0 → G p l e R s m args below meth cd D A cells slots Q nL ws (tgt) lv (st)) (kf : a = 0 → G p l e R s m args below meth cd D A cells slots Q nL ws (pc + 3) lv (st)) : G p l e R s m args below meth cd D A cells slots Q nL ws (pc) lv (.int (nI a) :: st) := g_if_ne hC tgt hdg ht (fun q => kt (fun w => q (by rw [w]))) (fun q => kf ((nI_eq ha (by decide)).mp q))
theorem g_if_gt_n (hC : gCx p s m args meth cd D cI cZ A cc nL Ts own) {a : Nat} {off : Int} (ha : a < 2 ^ 31) (tgt : Nat) (hdg : decode cc pc = .ok (.ifCond .gt off, 3)) (ht : (pc : Int) + off = (tgt : Int)) (kt : 0 < a → G p l e R s m args below meth cd D A cells slots Q nL ws (tgt) lv (st)) (kf : a = 0 → G p l e R s m args below meth cd D A cells slots Q nL ws (pc + 3) lv (st)) : G p l e R s m args below meth cd D A cells slots Q nL ws (pc) lv (.int (nI a) :: st) := g_if_gt hC tgt hdg ht (fun q => kt ((nI_ltI (by decide) ha).mp q)) (fun q => kf (Nat.eq_zero_of_not_pos (fun w => q ((nI_ltI (by decide) ha).mpr w))))
theorem g_if_le_n (hC : gCx p s m args meth cd D cI cZ A cc nL Ts own) {a : Nat} {off : Int} (ha : a < 2 ^ 31) (tgt : Nat) (hdg : decode cc pc = .ok (.ifCond .le off, 3)) (ht : (pc : Int) + off = (tgt : Int)) (kt : a = 0 → G p l e R s m args below meth cd D A cells slots Q nL ws (tgt) lv (st)) (kf : 0 < a → G p l e R s m args below meth cd D A cells slots Q nL ws (pc + 3) lv (st)) : G p l e R s m args below meth cd D A cells slots Q nL ws (pc) lv (.int (nI a) :: st) := g_if_le hC tgt hdg ht (fun q => kt (Nat.le_zero.mp ((nI_leI ha (by decide)).mp q))) (fun q => kf (Nat.pos_of_ne_zero (fun w => q ((nI_leI ha (by decide)).mpr (Nat.le_zero.mpr w)))))
theorem g_if_lt_n (hC : gCx p s m args meth cd D cI cZ A cc nL Ts own) {a : Nat} {off : Int} (ha : a < 2 ^ 31) (tgt : Nat) (hdg : decode cc pc = .ok (.ifCond .lt off, 3)) (ht : (pc : Int) + off = (tgt : Int)) (kt : False → G p l e R s m args below meth cd D A cells slots Q nL ws (tgt) lv (st)) (kf : True → G p l e R s m args below meth cd D A cells slots Q nL ws (pc + 3) lv (st)) : G p l e R s m args below meth cd D A cells slots Q nL ws (pc) lv (.int (nI a) :: st) := g_if_lt hC tgt hdg ht (fun q => kt ((nI_pos ha q).elim)) (fun q => kf (trivial))
theorem g_if_ge_n (hC : gCx p s m args meth cd D cI cZ A cc nL Ts own) {a : Nat} {off : Int} (ha : a < 2 ^ 31) (tgt : Nat) (hdg : decode cc pc = .ok (.ifCond .ge off, 3)) (ht : (pc : Int) + off = (tgt : Int)) (kt : True → G p l e R s m args below meth cd D A cells slots Q nL ws (tgt) lv (st)) (kf : False → G p l e R s m args below meth cd D A cells slots Q nL ws (pc + 3) lv (st)) : G p l e R s m args below meth cd D A cells slots Q nL ws (pc) lv (.int (nI a) :: st) := g_if_ge hC tgt hdg ht (fun q => kt (trivial)) (fun q => kf ((q (nI_pos' ha)).elim))
theorem g_if_eq_b (hC : gCx p s m args meth cd D cI cZ A cc nL Ts own) {P : Prop} [Decidable P] {off : Int} (tgt : Nat) (hdg : decode cc pc = .ok (.ifCond .eq off, 3)) (ht : (pc : Int) + off = (tgt : Int)) (kt : ¬ P → G p l e R s m args below meth cd D A cells slots Q nL ws (tgt) lv (st)) (kf : P → G p l e R s m args below meth cd D A cells slots Q nL ws (pc + 3) lv (st)) : G p l e R s m args below meth cd D A cells slots Q nL ws (pc) lv (.int (bI P) :: st) := g_if_eq hC tgt hdg ht (fun q => kt (bI_0 q)) (fun q => kf (bI_n0 q))
theorem g_if_ne_b (hC : gCx p s m args meth cd D cI cZ A cc nL Ts own) {P : Prop} [Decidable P] {off : Int} (tgt : Nat) (hdg : decode cc pc = .ok (.ifCond .ne off, 3)) (ht : (pc : Int) + off = (tgt : Int)) (kt : P → G p l e R s m args below meth cd D A cells slots Q nL ws (tgt) lv (st)) (kf : ¬ P → G p l e R s m args below meth cd D A cells slots Q nL ws (pc + 3) lv (st)) : G p l e R s m args below meth cd D A cells slots Q nL ws (pc) lv (.int (bI P) :: st) := g_if_ne hC tgt hdg ht (fun q => kt (bI_n0 q)) (fun q => kf (bI_0 q))
theorem cell_congr {cA : ClassId} {n : Nat} {f f2 : Nat → Int32} (h : ∀ j, j < n → f j = f2 j) : vp_cell cA (n, .inl f) = vp_cell cA (n, .inl f2) := by
  rw [vp_cell_i, vp_cell_i]
  have e : (fun j : Fin n => Value.int (f j.val)) = fun j : Fin n => Value.int (f2 j.val) := funext fun j => by rw [h j.val j.isLt]
  unfold arrV
  rw [e]
theorem g_arr {cA : ClassId} {a n : Nat} {f f2 : Nat → Int32} (q0 : Nat) (ha : ws[q0]? = some (a, .inl (cA, n, .inl f))) (h : ∀ j, j < n → f j = f2 j) (ws2 : va_W) (hws : ws.set q0 (a, .inl (cA, n, .inl f2)) = ws2) (k : G p l e R s m args below meth cd D A cells slots Q nL ws2 (pc) lv (st)) : G p l e R s m args below meth cd D A cells slots Q nL ws (pc) lv (st) := by
  subst hws
  refine fun H locs ls hP hD hS hl => k H locs ls (hP.set hD ha ?_ (fun _ _ => rfl)) (hD.set ha) hS hl
  show H[a]? = some (vp_cell _ _)
  rw [← cell_congr h]
  exact hP q0 _ ha
end GN
theorem l_ge {x y : Int32} : (0 ≤ lg_cmp x.toInt64 y.toInt64) ↔ y ≤ x := by
  rw [lg_cmp_ge, Int64.le_iff_toInt_le, Int32.toInt_toInt64, Int32.toInt_toInt64, Int32.le_iff_toInt_le]
theorem l_le {x y : Int32} : (lg_cmp x.toInt64 y.toInt64 ≤ 0) ↔ x ≤ y := by
  rw [lg_cmp_le, Int64.le_iff_toInt_le, Int32.toInt_toInt64, Int32.toInt_toInt64, Int32.le_iff_toInt_le]
