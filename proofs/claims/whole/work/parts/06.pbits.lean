/-! longs by their bits -/
def bL (x : Int64) (i : Nat) : Bool := x.toBitVec.getLsbD i
theorem bL_ext {x y : Int64} (h : ∀ i, i < 64 → bL x i = bL y i) : x = y := Int64.toBitVec_inj.mp (BitVec.eq_of_getLsbD_eq (fun i hi => h i hi))
theorem bL_or (x y : Int64) (i : Nat) : bL (x ||| y) i = (bL x i || bL y i) := by unfold bL; rw [Int64.toBitVec_or, BitVec.getLsbD_or]
theorem bL_and (x y : Int64) (i : Nat) : bL (x &&& y) i = (bL x i && bL y i) := by unfold bL; rw [Int64.toBitVec_and, BitVec.getLsbD_and]
theorem bL_big {x : Int64} {i : Nat} (h : 64 ≤ i) : bL x i = false := BitVec.getLsbD_of_ge _ _ h
theorem bL_0 (i : Nat) : bL 0 i = false := BitVec.getLsbD_zero
theorem s6_u : ∀ n, n < 64 → (((nI n).toInt64.toUInt64 &&& Int64.toUInt64 63).toBitVec % 64).toNat = n := by decide +kernel
theorem s6_l : ∀ n, n < 64 → (((nI n).toInt64 &&& 63).toBitVec.smod 64).toNat = n := by decide +kernel
theorem bL_ushr (n : Nat) (hn : n < 64) (x : Int64) (i : Nat) : bL ((x.toUInt64 >>> ((nI n).toInt64.toUInt64 &&& Int64.toUInt64 63)).toInt64) i = bL x (n + i) := by
  show (x.toUInt64 >>> ((nI n).toInt64.toUInt64 &&& Int64.toUInt64 63)).toBitVec.getLsbD i = x.toUInt64.toBitVec.getLsbD (n + i)
  rw [UInt64.toBitVec_shiftRight]
  show (x.toUInt64.toBitVec >>> (((nI n).toInt64.toUInt64 &&& Int64.toUInt64 63).toBitVec % 64).toNat).getLsbD i = _
  rw [s6_u n hn, BitVec.getLsbD_ushiftRight]
theorem bL_shl (n : Nat) (hn : n < 64) (x : Int64) {i : Nat} (hi : i < 64) : bL (x <<< ((nI n).toInt64 &&& 63)) i = (decide (n ≤ i) && bL x (i - n)) := by
  unfold bL
  rw [Int64.toBitVec_shiftLeft]
  show (x.toBitVec <<< (((nI n).toInt64 &&& 63).toBitVec.smod 64).toNat).getLsbD i = _
  rw [s6_l n hn, BitVec.getLsbD_shiftLeft]
  rcases Nat.lt_or_ge i n with h | h
  · simp [h, Nat.not_le.mpr h]
  · simp [hi, h, Nat.not_lt.mpr h]
theorem bL_l2i (x : Int64) {i : Nat} (hi : i < 32) : bt x.toInt32 i = bL x i := by
  show (x.toBitVec.signExtend 32).getLsbD i = x.toBitVec.getLsbD i
  rw [BitVec.getLsbD_signExtend]
  simp [hi, show i < 64 by omega]
theorem bL_i2l (x : Int32) {i : Nat} (hi : i < 32) : bL x.toInt64 i = bt x i := by
  show (x.toBitVec.signExtend 64).getLsbD i = x.toBitVec.getLsbD i
  rw [BitVec.getLsbD_signExtend]
  simp [hi, show i < 64 by omega]
theorem bL_i2lh (x : Int32) {i : Nat} (hi : 32 ≤ i) (h : bt x 31 = false) : bL x.toInt64 i = false := by
  show (x.toBitVec.signExtend 64).getLsbD i = false
  rw [BitVec.getLsbD_signExtend, BitVec.msb_eq_getLsbD_last]
  have h : x.toBitVec.getLsbD 31 = false := h
  simp [show ¬ i < 32 by omega]
  intro _
  rw [← BitVec.getLsbD_eq_getElem]
  exact h
theorem bt_i8 (x : Int32) {i : Nat} (hi : i < 8) : bt x.toInt8.toInt32 i = bt x i := by
  show ((x.toBitVec.signExtend 8).signExtend 32).getLsbD i = x.toBitVec.getLsbD i
  rw [BitVec.getLsbD_signExtend, BitVec.getLsbD_signExtend]
  simp [hi, show i < 32 by omega]
theorem bt_nI (k : Nat) {i : Nat} (hi : i < 32) : bt (nI k) i = k.testBit i := by
  show (BitVec.ofNat 32 k).getLsbD i = _
  rw [BitVec.getLsbD_ofNat]
  simp [hi]
theorem bL_lN (k : Nat) {i : Nat} (hi : i < 64) : bL (lN k) i = k.testBit i := by
  show (BitVec.ofNat 64 k).getLsbD i = _
  rw [BitVec.getLsbD_ofNat]
  simp [hi]
/-- (1 << k) - 1 : k ones -/
theorem bt_ones : ∀ k, k < 9 → ∀ i, i < 32 → bt (((nI 1) <<< (nI k &&& 31)) - nI 1) i = decide (i < k) := by decide +kernel
/-! the column: B its bits, bc how many; o the bytes that hold them, the last one filled up with 0 -/
def oB (o : Nat → Int32) (bc : Nat) (B : Nat → Bool) : Prop := ∀ i, i < 8 * ((bc + 7) / 8) → bt (o (i / 8)) (7 - i % 8) = (decide (i < bc) && B i)
/-- the bits a .. a + w - 1 are those of v, the highest first -/
def fld (B : Nat → Bool) (a w : Nat) (v : Int64) : Prop := ∀ k, k < w → B (a + k) = bL v (w - 1 - k)
def bA (B : Nat → Bool) (bc : Nat) (v : Int64) (w : Nat) : Nat → Bool := fun i => if i < bc then B i else bL v (bc + w - 1 - i)
theorem bA_lo {B : Nat → Bool} {bc : Nat} {v : Int64} {w i : Nat} (h : i < bc) : bA B bc v w i = B i := if_pos h
theorem bA_hi {B : Nat → Bool} {bc : Nat} {v : Int64} {w i : Nat} (h : bc ≤ i) : bA B bc v w i = bL v (bc + w - 1 - i) := if_neg (by omega)
theorem bA_fld (B : Nat → Bool) (bc : Nat) (v : Int64) (w : Nat) : fld (bA B bc v w) bc w v := fun k hk => by
  rw [bA_hi (by omega)]
  congr 1
  omega
theorem fld_keep {B : Nat → Bool} {bc a w : Nat} {v u : Int64} {z : Nat} (h : fld B a w u) (ha : a + w ≤ bc) : fld (bA B bc v z) a w u := fun k hk => by
  rw [bA_lo (by omega)]
  exact h k hk
theorem oB_congr {o : Nat → Int32} {bc : Nat} {B B' : Nat → Bool} (h : oB o bc B) (hB : ∀ i, i < bc → B' i = B i) : oB o bc B' := fun i hi => by
  rw [h i hi]
  by_cases hc : i < bc
  · rw [hB i hc]
  · simp [hc]
/-- one piece of at most a byte comes behind -/
theorem oB_add {o : Nat → Int32} {b tk : Nat} {B : Nat → Bool} {sh : Int32} (h : oB o b B) (h1 : 1 ≤ tk) (h8 : b % 8 + tk ≤ 8)
    (hs : ∀ p, p < 8 → bt sh p = (decide (8 - b % 8 - tk ≤ p) && (decide (p < 8 - b % 8) && B (8 * (b / 8) + 7 - p)))) :
    oB (upd o (b / 8) (vp_nar .byte (((if b % 8 = 0 then 0 else o (b / 8)) ||| sh).toInt8.toInt32))) (b + tk) B := by
  intro i hi
  have hz : (b + tk + 7) / 8 = b / 8 + 1 := by omega
  rw [hz] at hi
  by_cases hc : i / 8 = b / 8
  · rw [hc, pk_us, pk_vb, bt_i8 _ (by omega), b_or]
    have e1 : 8 * (b / 8) + 7 - (7 - i % 8) = i := by omega
    rw [hs _ (by omega), e1]
    by_cases h0 : b % 8 = 0
    · rw [if_pos h0, b_0]
      by_cases hb : i < b + tk
      · have q1 : 8 - b % 8 - tk ≤ 7 - i % 8 := by omega
        have q2 : 7 - i % 8 < 8 - b % 8 := by omega
        simp [hb, q1, q2]
      · have q1 : ¬ 8 - b % 8 - tk ≤ 7 - i % 8 := by omega
        simp [hb, q1]
    · rw [if_neg h0]
      have h9 := h i (by omega)
      rw [hc] at h9
      rw [h9]
      by_cases hb : i < b
      · have q0 : i < b + tk := by omega
        have q2 : ¬ 7 - i % 8 < 8 - b % 8 := by omega
        simp [hb, q0, q2]
      · by_cases hb2 : i < b + tk
        · have q1 : 8 - b % 8 - tk ≤ 7 - i % 8 := by omega
          have q2 : 7 - i % 8 < 8 - b % 8 := by omega
          simp [hb, hb2, q1, q2]
        · have q1 : ¬ 8 - b % 8 - tk ≤ 7 - i % 8 := by omega
          simp [hb, hb2, q1]
  · rw [pk_un hc, h i (by omega)]
    have q0 : i < b := by omega
    have q1 : i < b + tk := by omega
    simp [q0, q1]
/-- the bits of r are those of the column from a on -/
def rdV (B : Nat → Bool) (a w : Nat) (r : Int64) : Prop := ∀ t, t < 64 → bL r t = (decide (t < w) && B (a + w - 1 - t))
theorem rdV_fld {B : Nat → Bool} {a w : Nat} {r v : Int64} (h : rdV B a w r) (hf : fld B a w v) (hv : ∀ t, w ≤ t → bL v t = false) : r = v := bL_ext fun t ht => by
  rw [h t ht]
  by_cases hc : t < w
  · have h9 := hf (w - 1 - t) (by omega)
    rw [show a + (w - 1 - t) = a + w - 1 - t by omega, show w - 1 - (w - 1 - t) = t by omega] at h9
    simp [hc, h9]
  · rw [hv t (by omega)]
    simp [hc]
/-- the piece that append lays: lf bits of v are left, tk of them come, behind bit b1 -/
theorem ap_piece {B : Nat → Bool} {b0 w b1 lf tk : Nat} {v : Int64} (hw : w ≤ 64) (e : b1 + lf = b0 + w) (hle : lf ≤ w) (h1 : 1 ≤ tk) (h2 : tk ≤ lf) (h3 : b1 % 8 + tk ≤ 8) :
    ∀ p, p < 8 → bt (((v.toUInt64 >>> ((nI (lf - tk)).toInt64.toUInt64 &&& Int64.toUInt64 63)).toInt64.toInt32 &&& ((nI 1 <<< (nI tk &&& 31)) - nI 1)) <<< (nI (8 - b1 % 8 - tk) &&& 31)) p = (decide (8 - b1 % 8 - tk ≤ p) && (decide (p < 8 - b1 % 8) && bA B b0 v w (8 * (b1 / 8) + 7 - p))) := by
  intro p hp
  rw [b_shl _ (by omega) _ (by omega)]
  by_cases c1 : 8 - b1 % 8 - tk ≤ p
  · rw [b_and, bL_l2i _ (by omega), bL_ushr _ (by omega), bt_ones _ (by omega) _ (by omega)]
    by_cases c2 : p < 8 - b1 % 8
    · rw [bA_hi (by omega), show lf - tk + (p - (8 - b1 % 8 - tk)) = b0 + w - 1 - (8 * (b1 / 8) + 7 - p) by omega]
      have c3 : p - (8 - b1 % 8 - tk) < tk := by omega
      simp [c1, c2, c3]
    · have c3 : ¬ p - (8 - b1 % 8 - tk) < tk := by omega
      simp [c1, c2, c3]
  · simp [c1]
/-- the piece that bitsAt takes -/
theorem rd_piece {o : Nat → Int32} {bc : Nat} {B : Nat → Bool} {a dn b1 tk : Nat} {v : Int64} (hc : oB o bc B) (e : b1 = a + dn) (h0 : b1 + tk ≤ bc) (h1 : 1 ≤ tk) (h3 : b1 % 8 + tk ≤ 8) (hd : dn + tk ≤ 64) (h : rdV B a dn v) :
    rdV B a (dn + tk) ((v <<< ((nI tk).toInt64 &&& 63)) ||| ((((o (b1 / 8) &&& 255).toUInt32 >>> ((nI (8 - b1 % 8 - tk)).toUInt32 &&& Int32.toUInt32 31)).toInt32 &&& ((nI 1 <<< (nI tk &&& 31)) - nI 1)).toInt64)) := by
  intro t ht
  have hp : ∀ j, j < 32 → bt (((o (b1 / 8) &&& 255).toUInt32 >>> ((nI (8 - b1 % 8 - tk)).toUInt32 &&& Int32.toUInt32 31)).toInt32 &&& ((nI 1 <<< (nI tk &&& 31)) - nI 1)) j = (decide (j < tk) && bt (o (b1 / 8)) (8 - b1 % 8 - tk + j)) := by
    intro j hj
    rw [b_and, b_ushr _ (by omega), b_and, b_255, bt_ones _ (by omega) _ hj]
    by_cases c : j < tk
    · have c2 : 8 - b1 % 8 - tk + j < 8 := by omega
      simp [c, c2]
    · simp [c]
  rw [bL_or, bL_shl _ (by omega) _ ht]
  by_cases c : t < tk
  · rw [bL_i2l _ (by omega), hp t (by omega)]
    have h9 := hc (b1 + tk - 1 - t) (by omega)
    rw [show (b1 + tk - 1 - t) / 8 = b1 / 8 by omega, show 7 - (b1 + tk - 1 - t) % 8 = 8 - b1 % 8 - tk + t by omega] at h9
    rw [h9, show a + (dn + tk) - 1 - t = b1 + tk - 1 - t by omega]
    have q1 : ¬ tk ≤ t := by omega
    have q2 : t < dn + tk := by omega
    have q3 : b1 + tk - 1 - t < bc := by omega
    simp [c, q1, q2, q3]
  · have q1 : tk ≤ t := by omega
    have hz : bL ((((o (b1 / 8) &&& 255).toUInt32 >>> ((nI (8 - b1 % 8 - tk)).toUInt32 &&& Int32.toUInt32 31)).toInt32 &&& ((nI 1 <<< (nI tk &&& 31)) - nI 1)).toInt64) t = false := by
      by_cases c2 : t < 32
      · rw [bL_i2l _ c2, hp t c2]
        simp [c]
      · refine bL_i2lh _ (by omega) ?_
        rw [hp 31 (by omega)]
        have c3 : ¬ 31 < tk := by omega
        simp [c3]
    rw [hz, h (t - tk) (by omega), show a + (dn + tk) - 1 - t = a + dn - 1 - (t - tk) by omega]
    by_cases c4 : t < dn + tk
    · have c5 : t - tk < dn := by omega
      simp [q1, c4, c5]
    · have c5 : ¬ t - tk < dn := by omega
      simp [q1, c4, c5]
theorem nI_mn {a b : Nat} (ha : a < 2 ^ 31) (hb : b < 2 ^ 31) : (if nI b < nI a then nI b else nI a) = nI (min a b) := by
  by_cases h : b < a
  · rw [if_pos ((nI_ltI hb ha).mpr h), show min a b = b by omega]
  · rw [if_neg (fun q => h ((nI_ltI hb ha).mp q)), show min a b = a by omega]
theorem rdV_0 (B : Nat → Bool) (a : Nat) : rdV B a 0 0 := fun t _ => by rw [bL_0]; simp
/-! how many binary digits -/
def bln (n : Nat) : Nat := if n = 0 then 0 else n.log2 + 1
theorem bln_0 : bln 0 = 0 := rfl
theorem bln_iff {n k : Nat} (h : 0 < n) : bln n = k + 1 ↔ 2 ^ k ≤ n ∧ n < 2 ^ (k + 1) := by
  have h0 : n ≠ 0 := by omega
  unfold bln
  rw [if_neg h0, Nat.add_right_cancel_iff]
  exact Nat.log2_eq_iff h0
theorem bln_lt (n : Nat) : n < 2 ^ bln n := by
  by_cases h : n = 0
  · rw [h]; decide
  · unfold bln
    rw [if_neg h]
    exact Nat.lt_log2_self
theorem bln_le {n k : Nat} (h : n < 2 ^ k) : bln n ≤ k := by
  by_cases h0 : n = 0
  · rw [h0]; exact Nat.zero_le k
  · unfold bln
    rw [if_neg h0]
    exact (Nat.log2_lt h0).mpr h
theorem bln_sh {n k : Nat} (h : 2 ^ k ≤ n) : bln n = k + bln (n / 2 ^ k) := by
  have hp : 0 < 2 ^ k := Nat.two_pow_pos k
  have hq : 0 < n / 2 ^ k := Nat.div_pos h hp
  have hn : 0 < n := Nat.lt_of_lt_of_le hp h
  obtain ⟨j, hj⟩ : ∃ j, bln (n / 2 ^ k) = j + 1 := ⟨(n / 2 ^ k).log2, by unfold bln; rw [if_neg (by omega)]⟩
  obtain ⟨g1, g2⟩ := (bln_iff hq).mp hj
  rw [hj, show k + (j + 1) = (k + j) + 1 by omega]
  refine (bln_iff hn).mpr ⟨?_, ?_⟩
  · rw [Nat.pow_add, Nat.mul_comm]
    exact (Nat.le_div_iff_mul_le hp).mp g1
  · rw [show k + j + 1 = k + (j + 1) by omega, Nat.pow_add, Nat.mul_comm]
    exact (Nat.div_lt_iff_lt_mul hp).mp g2
/-! what is asked of a cell -/
def qF (kd : Nat) (lo hi v : Int64) : Bool := match kd with
  | 0 => decide (v = lo)
  | 1 => decide (v < lo)
  | 2 => decide (lo < v)
  | 3 => decide (v &&& lo = lo)
  | _ => decide (lo ≤ v) && decide (v ≤ hi)
def qB (b : Bool) : Int32 := if b then nI 1 else nI 0
theorem qB_t {b : Bool} (h : ¬ qB b = 0) : b = true := by cases b <;> first | exact absurd rfl h | rfl
theorem qB_f {b : Bool} (h : qB b = 0) : b = false := by cases b <;> first | rfl | exact absurd h (by decide)
theorem bln_4 {k : Nat} (h0 : 0 < k) (h : k < 4) : bln k = k / 2 + 1 := by
  rcases (show k = 1 ∨ k = 2 ∨ k = 3 by omega) with rfl | rfl | rfl <;> decide
theorem bln_32 {k : Nat} (h0 : 2147483648 ≤ k) (h : k < 4294967296) : bln k = 32 := (bln_iff (k := 31) (by omega)).mpr ⟨h0, h⟩
theorem nI_bv {k : Nat} (h : k < 4294967296) : (nI k).toBitVec.toNat = k := by
  show (BitVec.ofNat 32 k).toNat = k
  rw [BitVec.toNat_ofNat]
  exact Nat.mod_eq_of_lt h
theorem nI_int {k : Nat} (h : k < 4294967296) : (nI k).toInt = if 2 * k < 4294967296 then (k : Int) else (k : Int) - 4294967296 := by
  have e : (nI k).toInt = if 2 * (nI k).toBitVec.toNat < 2 ^ 32 then ((nI k).toBitVec.toNat : Int) else ((nI k).toBitVec.toNat : Int) - ((2 ^ 32 : Nat) : Int) := BitVec.toInt_eq_toNat_cond _
  rw [nI_bv h] at e
  exact e
theorem nI_sg {k : Nat} (h : k < 4294967296) : (0 : Int32) < nI k ↔ 0 < k ∧ k < 2147483648 := by
  rw [Int32.lt_iff_toInt_lt, nI_int h, show (0 : Int32).toInt = 0 from rfl]
  split <;> omega
theorem nI_z {k : Nat} (h : k < 4294967296) (e : nI k = 0) : k = 0 := by
  have h1 := nI_int h
  rw [e, show (0 : Int32).toInt = 0 from rfl] at h1
  split at h1 <;> omega
theorem nI_ng {k : Nat} (h : k < 4294967296) (h1 : ¬ (0 : Int32) < nI k) (h2 : ¬ nI k = 0) : 2147483648 ≤ k := by
  rw [nI_sg h] at h1
  rcases Nat.eq_zero_or_pos k with q | q
  · rw [q] at h2; exact absurd rfl h2
  · omega
theorem l2i_n (x : Int64) : x.toInt32 = nI (uN x) := by
  apply Int32.toBitVec_inj.mp
  show x.toBitVec.signExtend 32 = BitVec.ofNat 32 x.toBitVec.toNat
  apply BitVec.eq_of_getLsbD_eq
  intro i hi
  rw [BitVec.getLsbD_signExtend, BitVec.getLsbD_ofNat]
  simp [hi, show i < 64 by omega]
  rfl
theorem l2i_hi (x : Int64) : (x.toUInt64 >>> ((nI 32).toInt64.toUInt64 &&& Int64.toUInt64 63)).toInt64.toInt32 = nI (uN x / 4294967296) := by
  rw [l2i_n, uN_sk x (k := 32) (by omega)]
theorem nI_dec {a b : Nat} (h : b ≤ a) (c : Int32) (hc : c = - nI b) : nI a + c = nI (a - b) := by
  rw [hc, ← Int32.sub_eq_add_neg]
  exact pk_sub h
theorem nI_ushr {k j : Nat} (hk : k < 4294967296) (hj : j < 32) : ((nI k).toUInt32 >>> ((nI j).toUInt32 &&& Int32.toUInt32 31)).toInt32 = nI (k / 2 ^ j) := b_ext fun i hi => by
  rw [b_ushr _ hj, bt_nI _ hi, Nat.testBit_div_two_pow]
  by_cases h : j + i < 32
  · rw [bt_nI _ h, Nat.add_comm]
  · rw [b_big (by omega)]
    exact (Nat.testBit_lt_two_pow (Nat.lt_of_lt_of_le hk (Nat.pow_le_pow_right (n := 2) (by omega) (by omega : 32 ≤ i + j)))).symm
theorem upd_all {g : Nat → Int32} {i : Nat} {x : Int32} (h : ∀ j, j < i → g j = x) : ∀ j, j < i + 1 → upd g i x j = x := fun j hj => by
  by_cases q : j = i
  · rw [q]; exact pk_us
  · rw [pk_un q]; exact h j (by omega)
theorem rdV_end {B : Nat → Bool} {a w lf : Nat} {r v : Int64} (h : rdV B a (w - lf) r) (h0 : lf = 0) (hf : fld B a w v) (hv : ∀ t, w ≤ t → bL v t = false) : r = v := by
  subst h0
  exact rdV_fld h hf hv
