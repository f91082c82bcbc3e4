/-! a column's bits are its cells' alone; its bytes on both sides -/
theorem fld_un {B C : Nat → Bool} {a w : Nat} {v : Int64} (h : fld B a w v) (g : fld C a w v) {i : Nat} (h1 : a ≤ i) (h2 : i < a + w) : B i = C i := by
  have e1 := h (i - a) (by omega)
  have e2 := g (i - a) (by omega)
  rw [show a + (i - a) = i by omega] at e1 e2
  rw [e1, e2]
theorem blk {i n w : Nat} (h : i < n * w) : ∃ j, j < n ∧ j * w ≤ i ∧ i < j * w + w := by
  have hw : 0 < w := by
    rcases Nat.eq_zero_or_pos w with e | e
    · rw [e, Nat.mul_zero] at h; omega
    · exact e
  exact ⟨i / w, (Nat.div_lt_iff_lt_mul hw).mpr h, Nat.div_mul_le_self i w, Nat.lt_div_mul_add hw⟩
def cUn (bc bd : Nat) (B C : Nat → Bool) : Prop := bc = bd ∧ ∀ i, i < bc → B i = C i
theorem lP_un {xs : Nat → Int64} {n bc bd : Nat} {B C : Nat → Bool} (h : lP xs n bc B) (g : lP xs n bd C) : cUn bc bd B C := ⟨by rw [h.1, g.1], fun i hi => by
  have e := h.1
  exact fld_un (h.2 (i / 64) (by omega)) (g.2 (i / 64) (by omega)) (by omega) (by omega)⟩
theorem lK_un {xs : Nat → Int64} {n bc bd : Nat} {B C : Nat → Bool} (h : lK xs n bc B) (g : lK xs n bd C) : cUn bc bd B C := ⟨by rw [h.1, g.1], fun i hi => by
  have e := h.1
  by_cases c1 : i < 64
  · exact fld_un h.2.1 g.2.1 (by omega) (by omega)
  · by_cases c2 : i < 72
    · exact fld_un h.2.2.1 g.2.2.1 (by omega) (by omega)
    · obtain ⟨j, j1, j2, j3⟩ := blk (i := i - 72) (n := n) (w := wP xs n) (by omega)
      exact fld_un (h.2.2.2 j j1) (g.2.2.2 j j1) (by omega) (by omega)⟩
theorem lS_un {xs : Nat → Int64} {n bc bd : Nat} {B C : Nat → Bool} (h : lS xs n bc B) (g : lS xs n bd C) : cUn bc bd B C := ⟨by rw [h.1, g.1], fun i hi => by
  have e := h.1
  by_cases c1 : i < 64
  · exact fld_un h.2.1 g.2.1 (by omega) (by omega)
  · by_cases c2 : i < 128
    · exact fld_un h.2.2.1 g.2.2.1 (by omega) (by omega)
    · by_cases c3 : i < 136
      · exact fld_un h.2.2.2.1 g.2.2.2.1 (by omega) (by omega)
      · obtain ⟨j, j1, j2, j3⟩ := blk (i := i - 136) (n := n - 1) (w := wS xs n) (by omega)
        exact fld_un (h.2.2.2.2 j j1) (g.2.2.2.2 j j1) (by omega) (by omega)⟩
theorem lL_un {xs : Nat → Int64} {n bc bd : Nat} {B C : Nat → Bool} (h : lL xs n bc B) (g : lL xs n bd C) : cUn bc bd B C := by
  obtain ⟨rs, d, pl, h1, h2, h3, h4, h5, h6⟩ := h
  obtain ⟨rt, f, pk, g1, g2, g3, g4, g5, g6⟩ := g
  have e := rInv_un h1 g1
  subst e
  refine ⟨by rw [h3, g3], fun i hi => ?_⟩
  by_cases c1 : i < 16
  · exact fld_un h4 g4 (by omega) (by omega)
  · by_cases c2 : i < 16 + 64 * d
    · have k1 : (i - 16) / 64 < d := by omega
      have h7 := h5 _ k1
      have g7 := g5 _ k1
      rw [← rInv_eq h1 g1 k1] at g7
      exact fld_un h7 g7 (by omega) (by omega)
    · obtain ⟨j, j1, j2, j3⟩ := blk (i := i - (16 + 64 * d)) (n := n) (w := bln (d - 1)) (by omega)
      obtain ⟨q1, q2⟩ := rPl_lt g1 j1 (g2 j j1)
      have e2 : pl j = pk j := rPl_hit h1.1 (h2 j j1) q1 (by rw [rInv_eq h1 g1 q1]; exact q2)
      have g7 := g6 j j1
      rw [← e2] at g7
      exact fld_un (h6 j j1) g7 (by omega) (by omega)
theorem rDc_un {xs : Nat → Int64} {sb sc : Nat → Nat} {k : Nat} (h : rDc xs sb k) (g : rDc xs sc k) (e : sb k = sc k) : ∀ m, m ≤ k → sb m = sc m
  | 0, _ => by rw [h.1, g.1]
  | m + 1, hm => by
    have ih := rDc_un h g e m (by omega)
    rcases Nat.lt_trichotomy (sb (m + 1)) (sc (m + 1)) with q | q | q
    · by_cases c : m + 1 = k
      · rw [c] at q; omega
      · have h1 := g.2.2.1 m (by omega) (sb (m + 1)) (by have := h.2.1 m (by omega); omega) q
        rw [← ih] at h1
        exact absurd h1 (h.2.2.2 m (by omega))
    · exact q
    · by_cases c : m + 1 = k
      · rw [c] at q; omega
      · have h1 := h.2.2.1 m (by omega) (sc (m + 1)) (by have := g.2.1 m (by omega); omega) q
        rw [ih] at h1
        exact absurd h1 (g.2.2.2 m (by omega))
theorem lR_un {xs : Nat → Int64} {n bc bd : Nat} {B C : Nat → Bool} (h : lR xs n bc B) (g : lR xs n bd C) : cUn bc bd B C := by
  obtain ⟨sb, h1, h2, h3, h4, h5, h6⟩ := h
  obtain ⟨sc, g1, g2, g3, g4, g5, g6⟩ := g
  have un := rDc_un h1 g1 (by rw [h2, g2])
  refine ⟨by rw [h3, g3], fun i hi => ?_⟩
  by_cases c1 : i < 16
  · exact fld_un h4 g4 (by omega) (by omega)
  · have k1 : (i - 16) / 80 < rRn xs n := by omega
    have g7 := g5 _ k1
    have g8 := g6 _ k1
    rw [← un _ (by omega)] at g7
    rw [← un _ (by omega), ← un _ (by omega)] at g8
    by_cases c2 : i < 16 + 80 * ((i - 16) / 80) + 64
    · exact fld_un (h5 _ k1) g7 (by omega) c2
    · exact fld_un (h6 _ k1) g8 (by omega) (by omega)
theorem lF_un {k : Nat} {xs : Nat → Int64} {n bc bd : Nat} {B C : Nat → Bool} (h : lF k xs n bc B) (g : lF k xs n bd C) : cUn bc bd B C := by
  match k, h, g with
  | 0, h, g => exact lP_un h g
  | 1, h, g => exact lK_un h g
  | 2, h, g => exact lL_un h g
  | 3, h, g => exact lR_un h g
  | k + 4, h, g => exact lS_un h g
theorem bV_t8 : ∀ (b0 b1 b2 b3 b4 b5 b6 b7 : Bool) (t : Fin 32), (b0.toNat * 128 + b1.toNat * 64 + b2.toNat * 32 + b3.toNat * 16 + b4.toNat * 8 + b5.toNat * 4 + b6.toNat * 2 + b7.toNat).testBit t.val = (decide (t.val < 8) && (match t.val with | 0 => b7 | 1 => b6 | 2 => b5 | 3 => b4 | 4 => b3 | 5 => b2 | 6 => b1 | _ => b0)) := by decide +kernel
theorem bV_t (f : Nat → Bool) {t : Nat} (ht : t < 32) : (bV f).testBit t = (decide (t < 8) && f (7 - t)) := by
  have h := bV_t8 (f 0) (f 1) (f 2) (f 3) (f 4) (f 5) (f 6) (f 7) ⟨t, ht⟩
  unfold bV
  rw [h]
  by_cases c : t < 8
  · rcases (show t = 0 ∨ t = 1 ∨ t = 2 ∨ t = 3 ∨ t = 4 ∨ t = 5 ∨ t = 6 ∨ t = 7 by omega) with rfl | rfl | rfl | rfl | rfl | rfl | rfl | rfl <;> rfl
  · simp [c]
theorem byte_eq {o mm : Nat → Int32} {bc i : Nat} {B : Nat → Bool} (ho : oB o bc B) (hm : mB mm bc B) (hi : i < (bc + 7) / 8) : o i &&& 255 = mm i := b_ext fun t ht => by
  rw [hm i hi, bt_nI _ ht, bV_t _ ht, b_and, b_255]
  by_cases c : t < 8
  · have h := ho (8 * i + (7 - t)) (by omega)
    rw [show (8 * i + (7 - t)) / 8 = i by omega, show 7 - (8 * i + (7 - t)) % 8 = t by omega] at h
    rw [h]
    unfold gB
    simp [c]
  · simp [c]
theorem nC_c {P : Int64 → Bool} {xs ys : Nat → Int64} : ∀ n, (∀ j, j < n → xs j = ys j) → nC P xs n = nC P ys n
  | 0, _ => rfl
  | n + 1, h => by
    show nC P xs n + _ = nC P ys n + _
    rw [nC_c n (fun j hj => h j (by omega)), h n (by omega)]
theorem nS_c {P : Int64 → Bool} {xs ys : Nat → Int64} : ∀ n, (∀ j, j < n → xs j = ys j) → nS P xs n = nS P ys n
  | 0, _ => rfl
  | n + 1, h => by
    show nS P xs n + _ = nS P ys n + _
    rw [nS_c n (fun j hj => h j (by omega)), h n (by omega)]
theorem wGt_eq {xs rs : Nat → Int64} {n d rn : Nat} {lo hi sl sh : Int64} (h : rAll xs n d rn lo hi sl sh rs) (h0 : 0 < n) : wGt n d rn lo hi sl sh = wGt n d (rRn xs n) (rLo xs n) (rHi xs n) (sLo xs n) (sHi xs n) := by
  obtain ⟨-, -, h3, h4⟩ := h
  obtain ⟨e1, e2, e3, e4⟩ := h4 h0
  rw [h3, e1, e2, e3, e4]
theorem lw_cmp {L i : Nat} (hL : L ≤ 3072) (hi : i ≤ 4000) : (nI L - nI 6 < nI i) ↔ L < i + 6 := by
  by_cases h : 6 ≤ L
  · rw [pk_sub h, nI_ltI (by omega) (by omega)]; omega
  · constructor
    · intro _; omega
    · intro _
      have hk : ∀ L, L < 6 → (nI L - nI 6).toInt < 0 := by decide +kernel
      have h1 := hk L (by omega)
      rw [Int32.lt_iff_toInt_lt, nI_toInt (by omega)]
      omega
theorem i_of (x : Int32) : ∃ n, n < 4294967296 ∧ x = nI n := ⟨x.toBitVec.toNat, x.toBitVec.isLt, Int32.toBitVec_inj.mp (by show _ = BitVec.ofNat 32 _; simp)⟩
theorem and15 (x : Int32) : ∃ j, j < 16 ∧ x &&& nI 15 = nI j := by
  obtain ⟨n, hn, rfl⟩ := i_of x
  exact ⟨n % 16, Nat.mod_lt _ (by omega), pk_andN (by omega) 4 (by decide)⟩
