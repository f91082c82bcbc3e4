/-! the reference: digits, bits into bytes, lists -/
theorem sh1 (x : Int64) {k : Nat} (hk : k < 64) : (x >>> ((nI k).toInt64 &&& 63)) &&& 1 = if bL x k then 1 else 0 := bL_ext fun i hi => by
  have e1 : bL 1 i = decide (i = 0) := by
    have h : ∀ i, i < 64 → bL 1 i = decide (i = 0) := by decide +kernel
    exact h i hi
  rw [bL_and, e1]
  by_cases c : i = 0
  · subst c
    have e2 : bL (x >>> ((nI k).toInt64 &&& 63)) 0 = bL x k := by
      unfold bL
      rw [Int64.toBitVec_shiftRight]
      show (x.toBitVec.sshiftRight (((nI k).toInt64 &&& 63).toBitVec.smod 64).toNat).getLsbD 0 = _
      rw [s6_l k hk, BitVec.getLsbD_sshiftRight]
      simp [hk]
    rw [e2]
    by_cases q : bL x k = true
    · rw [if_pos q, q, e1]; rfl
    · rw [if_neg q, bL_0, (Bool.not_eq_true _).mp q]; rfl
  · rw [decide_eq_false c, Bool.and_false]
    by_cases q : bL x k = true
    · rw [if_pos q, e1, decide_eq_false c]
    · rw [if_neg q, bL_0]
theorem sh1_i (x : Int64) {k : Nat} (hk : k < 64) : ((x >>> ((nI k).toInt64 &&& 63)) &&& 1).toInt32 = nI (if bL x k then 1 else 0) := by
  rw [sh1 x hk]
  by_cases q : bL x k = true
  · rw [if_pos q, if_pos q]; rfl
  · rw [if_neg q, if_neg q]; rfl
theorem sh1_1 (x : Int64) {k : Nat} (hk : k < 64) : (x >>> ((nI k).toInt64 &&& 63)) &&& 1 = 1 ↔ (uN x).testBit k = true := by
  rw [sh1 x hk, ← bL_uN]
  by_cases q : bL x k = true
  · rw [if_pos q]; exact ⟨fun _ => q, fun _ => rfl⟩
  · rw [if_neg q]; exact ⟨fun h => absurd h (by decide), fun h => absurd h q⟩
theorem mod_s (m k : Nat) : m % 2 ^ (k + 1) = m % 2 ^ k + 2 ^ k * (m / 2 ^ k % 2) := by rw [Nat.pow_succ, Nat.mod_mul]
theorem bln_t {m k : Nat} (h : m.testBit k = true) : bln (m % 2 ^ (k + 1)) = k + 1 := by
  have e : m % 2 ^ (k + 1) = m % 2 ^ k + 2 ^ k := by
    rw [Nat.testBit_eq_decide_div_mod_eq] at h
    rw [mod_s, of_decide_eq_true h, Nat.mul_one]
  have h1 := Nat.mod_lt m (Nat.two_pow_pos k)
  have h2 := Nat.two_pow_pos k
  refine (bln_iff (by omega)).mpr ⟨by omega, ?_⟩
  rw [e, Nat.pow_succ]; omega
theorem bln_f {m k : Nat} (h : ¬ m.testBit k = true) : bln (m % 2 ^ (k + 1)) = bln (m % 2 ^ k) := by
  have e : m % 2 ^ (k + 1) = m % 2 ^ k := by
    rw [Nat.testBit_eq_decide_div_mod_eq, decide_eq_true_eq] at h
    rw [mod_s, show m / 2 ^ k % 2 = 0 by omega, Nat.mul_zero, Nat.add_zero]
  rw [e]
theorem mx_eq (v x : Int64) : (if v < x then x else v) = lMax v x := by
  unfold lMax
  by_cases h : v < x
  · rw [if_pos h, if_neg (fun q => ll_ir (ll_tr h q))]
  · rw [if_neg h]
    by_cases q : x < v
    · rw [if_pos q]
    · rw [if_neg q]; exact ll_ne h q
theorem rLo_s {xs : Nat → Int64} {k : Nat} (h : 0 < k) : rLo xs (k + 1) = lMin (rLo xs k) (xs k) := by
  obtain ⟨z, rfl⟩ : ∃ z, k = z + 1 := ⟨k - 1, by omega⟩
  rfl
theorem rHi_s {xs : Nat → Int64} {k : Nat} (h : 0 < k) : rHi xs (k + 1) = lMax (rHi xs k) (xs k) := by
  obtain ⟨z, rfl⟩ : ∃ z, k = z + 1 := ⟨k - 1, by omega⟩
  rfl
theorem sLo_s {xs : Nat → Int64} {k : Nat} (h : 2 ≤ k) : sLo xs (k + 1) = lMin (sLo xs k) (xs k - xs (k - 1)) := by
  obtain ⟨z, rfl⟩ : ∃ z, k = z + 2 := ⟨k - 2, by omega⟩
  rfl
theorem sHi_s {xs : Nat → Int64} {k : Nat} (h : 2 ≤ k) : sHi xs (k + 1) = lMax (sHi xs k) (xs k - xs (k - 1)) := by
  obtain ⟨z, rfl⟩ : ∃ z, k = z + 2 := ⟨k - 2, by omega⟩
  rfl
theorem rRn_s {xs : Nat → Int64} {k : Nat} (h : 0 < k) : rRn xs (k + 1) = rRn xs k + (if xs k = xs (k - 1) then 0 else 1) := by
  obtain ⟨z, rfl⟩ : ∃ z, k = z + 1 := ⟨k - 1, by omega⟩
  rfl
theorem lMin_y {v x : Int64} (h : ¬ v ≤ x) : x = lMin v x := by
  unfold lMin; rw [if_pos (Int64.not_le.mp h)]
theorem lMin_no {v x : Int64} (h : v ≤ x) : v = lMin v x := by
  unfold lMin; rw [if_neg (Int64.not_lt.mpr h)]
theorem lMax_y {v x : Int64} (h : ¬ x ≤ v) : x = lMax v x := by
  rw [← mx_eq, if_pos (Int64.not_le.mp h)]
theorem lMax_no {v x : Int64} (h : x ≤ v) : v = lMax v x := by
  rw [← mx_eq, if_neg (Int64.not_lt.mpr h)]
/-- two rising lists of the same cells are one -/
theorem rInv_sub {xs rs rt : Nat → Int64} {n d f : Nat} (h : rInv xs n rs d) (g : rInv xs n rt f) : ∀ i, i < d → ∃ t, i ≤ t ∧ t < f ∧ rt t = rs i
  | 0, hi => by
    obtain ⟨k, h1, h2⟩ := h.2.2.2.1 0 hi
    obtain ⟨t, h3, h4⟩ := g.2.2.1 k h1
    exact ⟨t, Nat.zero_le t, h3, by rw [h4, h2]⟩
  | i + 1, hi => by
    obtain ⟨t, h1, h2, h3⟩ := rInv_sub h g i (by omega)
    obtain ⟨k, h4, h5⟩ := h.2.2.2.1 (i + 1) hi
    obtain ⟨u, h6, h7⟩ := g.2.2.1 k h4
    have h8 := h.1 i (i + 1) (by omega) hi
    rw [← h5, ← h7, ← h3] at h8
    refine ⟨u, ?_, h6, by rw [h7, h5]⟩
    rcases Nat.lt_trichotomy t u with q | q | q
    · omega
    · rw [q] at h8; exact absurd h8 ll_ir
    · exact absurd (ll_tr h8 (g.1 u t q h2)) ll_ir
theorem rInv_un {xs rs rt : Nat → Int64} {n d f : Nat} (h : rInv xs n rs d) (g : rInv xs n rt f) : d = f := by
  rcases Nat.lt_trichotomy d f with q | q | q
  · obtain ⟨t, h1, h2, -⟩ := rInv_sub g h d q; omega
  · exact q
  · obtain ⟨t, h1, h2, -⟩ := rInv_sub h g f q; omega
theorem rInv_eq {xs rs rt : Nat → Int64} {n d f : Nat} (h : rInv xs n rs d) (g : rInv xs n rt f) {i : Nat} (hi : i < d) : rs i = rt i := by
  have e := rInv_un h g
  subst e
  obtain ⟨t, h1, h2, h3⟩ := rInv_sub h g i hi
  obtain ⟨u, h4, h5, h6⟩ := rInv_sub g h t h2
  have hu : u = i := by
    rcases Nat.lt_trichotomy u i with q | q | q
    · have := h.1 u i q hi; rw [h6, h3] at this; exact absurd this ll_ir
    · exact q
    · have := h.1 i u q h5; rw [h6, h3] at this; exact absurd this ll_ir
  have : t = i := by omega
  rw [← h3, this]
/-- the shift of listAll -/
def shP (lm la : Nat → Int64) (d i : Nat) : Prop := ∀ k, la k = if i < k ∧ k ≤ d then lm (k - 1) else lm k
theorem shP_0 (lm : Nat → Int64) (d : Nat) : shP lm lm d d := fun k => by rw [if_neg (by omega)]
theorem shP_s {lm la : Nat → Int64} {d i : Nat} (h : shP lm la d i) (h0 : 0 < i) (hd : i ≤ d) : shP lm (vp_updL la i (la (i - 1))) d (i - 1) := fun k => by
  by_cases e : k = i
  · rw [e, pk_uLs, h (i - 1), if_neg (by omega), if_pos (by omega)]
  · rw [pk_uLn e, h k]
    by_cases q : i < k ∧ k ≤ d
    · rw [if_pos q, if_pos (by omega)]
    · rw [if_neg q, if_neg (by omega)]
theorem shP_e {lm la : Nat → Int64} {d t : Nat} {v : Int64} (h : shP lm la d t) (ht : t ≤ d) : vp_updL la t v = rIns lm d t v := by
  funext k
  by_cases e : k = t
  · rw [e, pk_uLs, rIns_at]
  · rw [pk_uLn e, h k]
    by_cases q : t < k ∧ k ≤ d
    · rw [if_pos q, rIns_hi q.1 q.2]
    · rw [if_neg q]
      unfold rIns
      rw [pk_uLn e]
      exact (if_neg (by omega)).symm
theorem rInv_xs {xs ys rs : Nat → Int64} {n d : Nat} (h : rInv xs n rs d) (e : ∀ k, k < n → xs k = ys k) : rInv ys n rs d := by
  obtain ⟨h1, h2, h3, h4, h5⟩ := h
  refine ⟨h1, h2, fun k hk => ?_, fun i hi => ?_, h5⟩
  · obtain ⟨i, a, b⟩ := h3 k hk; exact ⟨i, a, by rw [b, e k hk]⟩
  · obtain ⟨k, a, b⟩ := h4 i hi; exact ⟨k, a, by rw [← e k a, b]⟩
theorem rInv_o {xs rs : Nat → Int64} {k d t : Nat} (h : rInv xs k rs d) (ht : t < d) (e : rs t = xs k) : rInv xs (k + 1) rs d :=
  rInv_xs (rInv_old h ht e) (fun j hj => by
    by_cases q : j = k
    · rw [q, pk_uLs]
    · rw [pk_uLn q])
theorem rInv_w {xs rs : Nat → Int64} {k d t : Nat} (h : rInv xs k rs d) (hp : rPl rs d (xs k) t) (hn : ¬ (t < d ∧ rs t = xs k)) : rInv xs (k + 1) (rIns rs d t (xs k)) (d + 1) :=
  rInv_xs (rInv_new h hp hn) (fun j hj => by
    by_cases q : j = k
    · rw [q, pk_uLs]
    · rw [pk_uLn q])
theorem nI_m1 (x : Int32) : x + Int32.ofInt (-1) = x - nI 1 := by
  rw [Int32.sub_eq_add_neg]; rfl
theorem nI_m1lt {j : Nat} (h : j < 2147483648) : (nI j - nI 1 < 0) ↔ j = 0 := by
  constructor
  · intro q
    rcases Nat.eq_zero_or_pos j with e | e
    · exact e
    · rw [pk_sub (by omega)] at q; exact absurd q (nI_pos (by omega))
  · intro q; rw [q]; decide
/-! bits into bytes -/
def bV (f : Nat → Bool) : Nat := (f 0).toNat * 128 + (f 1).toNat * 64 + (f 2).toNat * 32 + (f 3).toNat * 16 + (f 4).toNat * 8 + (f 5).toNat * 4 + (f 6).toNat * 2 + (f 7).toNat
def gB (bc : Nat) (B : Nat → Bool) (i j : Nat) : Bool := decide (8 * i + j < bc) && B (8 * i + j)
def mB (m : Nat → Int32) (bc : Nat) (B : Nat → Bool) : Prop := ∀ i, i < (bc + 7) / 8 → m i = nI (bV (gB bc B i))
theorem bV_c {f g : Nat → Bool} (h : ∀ j, j < 8 → f j = g j) : bV f = bV g := by
  unfold bV
  rw [h 0 (by omega), h 1 (by omega), h 2 (by omega), h 3 (by omega), h 4 (by omega), h 5 (by omega), h 6 (by omega), h 7 (by omega)]
theorem bV_add {f g : Nat → Bool} {r : Nat} (hr : r < 8) (h1 : ∀ j, j < 8 → ¬ j = r → g j = f j) (h2 : f r = false) : bV g = bV f + (g r).toNat * 2 ^ (7 - r) := by
  unfold bV
  rcases (show r = 0 ∨ r = 1 ∨ r = 2 ∨ r = 3 ∨ r = 4 ∨ r = 5 ∨ r = 6 ∨ r = 7 by omega) with rfl | rfl | rfl | rfl | rfl | rfl | rfl | rfl <;>
    simp only [h2, h1 0, h1 1, h1 2, h1 3, h1 4, h1 5, h1 6, h1 7, Bool.toNat_false, Nat.reduceSub, Nat.reducePow, Nat.reduceLT, Nat.reduceEqDiff, not_false_eq_true, forall_const] <;> omega
theorem bV_0 {f : Nat → Bool} (h : ∀ j, j < 8 → f j = false) : bV f = 0 := by
  unfold bV
  rw [h 0 (by omega), h 1 (by omega), h 2 (by omega), h 3 (by omega), h 4 (by omega), h 5 (by omega), h 6 (by omega), h 7 (by omega)]
  rfl
theorem shl_b {b t : Nat} (hb : b ≤ 1) (ht : t ≤ 7) : nI b <<< (nI t &&& 31) = nI (b * 2 ^ t) := by
  have h : ∀ b, b < 2 → ∀ t, t < 8 → nI b <<< (nI t &&& 31) = nI (b * 2 ^ t) := by decide +kernel
  exact h b (by omega) t (by omega)
theorem mB_bit {m m' : Nat → Int32} {bc : Nat} {B : Nat → Bool} {b : Nat} (hm : mB m bc B) (hB : b = (B bc).toNat) (h1 : ∀ i, ¬ i = bc / 8 → m' i = m i) (h2 : m' (bc / 8) = (if bc % 8 = 0 then 0 else m (bc / 8)) + nI (b * 2 ^ (7 - bc % 8))) : mB m' (bc + 1) B := by
  intro i hi
  by_cases e : i = bc / 8
  · have e2 : gB (bc + 1) B i (bc % 8) = B bc := by
      unfold gB
      rw [e, show 8 * (bc / 8) + bc % 8 = bc by omega, decide_eq_true (by omega), Bool.true_and]
    have e3 : bV (gB (bc + 1) B i) = bV (gB bc B i) + (gB (bc + 1) B i (bc % 8)).toNat * 2 ^ (7 - bc % 8) := bV_add (by omega) (fun j hj hn => by
      unfold gB
      by_cases q : 8 * i + j < bc
      · rw [decide_eq_true q, decide_eq_true (by omega)]
      · rw [decide_eq_false q, decide_eq_false (by omega)]) (by unfold gB; rw [decide_eq_false (by omega), Bool.false_and])
    rw [e3, e2, ← hB, ← nI_add, e, h2]
    congr 1
    by_cases q : bc % 8 = 0
    · rw [if_pos q, bV_0 (fun j hj => by unfold gB; rw [decide_eq_false (by omega), Bool.false_and])]; rfl
    · rw [if_neg q]; exact hm (bc / 8) (by omega)
  · rw [h1 i e, hm i (by omega)]
    exact congrArg nI (bV_c (fun j hj => by
      unfold gB
      rw [decide_eq_true (by omega), decide_eq_true (by omega)]))
theorem mB_0 (m : Nat → Int32) (B : Nat → Bool) : mB m 0 B := fun i hi => absurd hi (by omega)
theorem mB_c {m : Nat → Int32} {bc : Nat} {B B' : Nat → Bool} (h : mB m bc B) (hB : ∀ i, i < bc → B' i = B i) : mB m bc B' := fun i hi => by
  rw [h i hi]
  exact congrArg nI (bV_c (fun j hj => by
    unfold gB
    by_cases q : 8 * i + j < bc
    · rw [hB _ q]
    · rw [decide_eq_false q, Bool.false_and, Bool.false_and]))
