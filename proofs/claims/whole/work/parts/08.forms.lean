/-! what fits into w bits; least and greatest; what the forms hold -/
theorem bL_uN (x : Int64) (t : Nat) : bL x t = (uN x).testBit t := rfl
theorem bL_small {x : Int64} {w : Nat} (h : uN x < 2 ^ w) : ∀ t, w ≤ t → bL x t = false := fun t ht => by
  rw [bL_uN]
  exact Nat.testBit_lt_two_pow (Nat.lt_of_lt_of_le h (Nat.pow_le_pow_right (n := 2) (by omega) ht))
theorem bL_64 {x : Int64} : ∀ t, 64 ≤ t → bL x t = false := fun t ht => bL_big ht
theorem uN_lN {n : Nat} (h : n < 18446744073709551616) : uN (lN n) = n := by
  show (BitVec.ofNat 64 n).toNat = n
  rw [BitVec.toNat_ofNat]
  exact Nat.mod_eq_of_lt h
theorem uN_sub (x a : Int64) : uN (x - a) = (18446744073709551616 - uN a + uN x) % 18446744073709551616 := UInt64.toNat_sub x.toUInt64 a.toUInt64
theorem ll_le {a b : Int64} : a ≤ b ↔ a.toInt ≤ b.toInt := Int64.le_iff_toInt_le
theorem uN_subI {x a : Int64} (h : a ≤ x) : (uN (x - a) : Int) = x.toInt - a.toInt := by
  rw [ll_le] at h
  have h1 := uN_lt x
  have h2 := uN_lt a
  rw [uN_sub]
  rw [uN_int x, uN_int a] at h
  rw [uN_int x, uN_int a]
  split at h <;> split at h <;> simp_all <;> omega
theorem uN_mono {a x b : Int64} (h1 : a ≤ x) (h2 : x ≤ b) : uN (x - a) ≤ uN (b - a) := by
  have e1 := uN_subI h1
  have e2 := uN_subI (Int64.le_trans h1 h2)
  rw [ll_le] at h2
  omega
theorem lMin_l (a b : Int64) : lMin a b ≤ a := by
  unfold lMin
  split
  · rename_i h; exact Int64.le_of_lt h
  · exact Int64.le_refl a
theorem lMin_r (a b : Int64) : lMin a b ≤ b := by
  unfold lMin
  split
  · exact Int64.le_refl b
  · rename_i h; exact Int64.not_lt.mp h
theorem lMax_l (a b : Int64) : a ≤ lMax a b := by
  unfold lMax
  split
  · exact Int64.le_refl a
  · rename_i h; exact Int64.not_lt.mp h
theorem lMax_r (a b : Int64) : b ≤ lMax a b := by
  unfold lMax
  split
  · rename_i h; exact Int64.le_of_lt h
  · exact Int64.le_refl b
theorem rLo_le {xs : Nat → Int64} : ∀ (n k : Nat), k < n → rLo xs n ≤ xs k
  | 0, k, h => absurd h (by omega)
  | 1, k, h => by
    have e : k = 0 := by omega
    rw [e]; exact Int64.le_refl _
  | n + 2, k, h => by
    show lMin (rLo xs (n + 1)) (xs (n + 1)) ≤ _
    by_cases e : k = n + 1
    · rw [e]; exact lMin_r _ _
    · exact Int64.le_trans (lMin_l _ _) (rLo_le (n + 1) k (by omega))
theorem rHi_ge {xs : Nat → Int64} : ∀ (n k : Nat), k < n → xs k ≤ rHi xs n
  | 0, k, h => absurd h (by omega)
  | 1, k, h => by
    have e : k = 0 := by omega
    rw [e]; exact Int64.le_refl _
  | n + 2, k, h => by
    show _ ≤ lMax (rHi xs (n + 1)) (xs (n + 1))
    by_cases e : k = n + 1
    · rw [e]; exact lMax_r _ _
    · exact Int64.le_trans (rHi_ge (n + 1) k (by omega)) (lMax_l _ _)
theorem sLo_le {xs : Nat → Int64} : ∀ (n k : Nat), k + 1 < n → sLo xs n ≤ xs (k + 1) - xs k
  | 0, k, h => absurd h (by omega)
  | 1, k, h => absurd h (by omega)
  | 2, k, h => by
    have e : k = 0 := by omega
    rw [e]; exact Int64.le_refl _
  | n + 3, k, h => by
    show lMin (sLo xs (n + 2)) (xs (n + 2) - xs (n + 1)) ≤ _
    by_cases e : k = n + 1
    · rw [e]; exact lMin_r _ _
    · exact Int64.le_trans (lMin_l _ _) (sLo_le (n + 2) k (by omega))
theorem sHi_ge {xs : Nat → Int64} : ∀ (n k : Nat), k + 1 < n → xs (k + 1) - xs k ≤ sHi xs n
  | 0, k, h => absurd h (by omega)
  | 1, k, h => absurd h (by omega)
  | 2, k, h => by
    have e : k = 0 := by omega
    rw [e]; exact Int64.le_refl _
  | n + 3, k, h => by
    show _ ≤ lMax (sHi xs (n + 2)) (xs (n + 2) - xs (n + 1))
    by_cases e : k = n + 1
    · rw [e]; exact lMax_r _ _
    · exact Int64.le_trans (sHi_ge (n + 2) k (by omega)) (lMax_l _ _)
/-- the widths -/
def wP (xs : Nat → Int64) (n : Nat) : Nat := bln (uN (rHi xs n - rLo xs n))
def wS (xs : Nat → Int64) (n : Nat) : Nat := bln (uN (sHi xs n - sLo xs n))
theorem bln64 (x : Int64) : bln (uN x) ≤ 64 := bln_le (k := 64) (uN_lt x)
theorem wP_le (xs : Nat → Int64) (n : Nat) : wP xs n ≤ 64 := bln64 _
theorem wS_le (xs : Nat → Int64) (n : Nat) : wS xs n ≤ 64 := bln64 _
theorem wP_fits {xs : Nat → Int64} {n k : Nat} (h : k < n) : uN (xs k - rLo xs n) < 2 ^ wP xs n := Nat.lt_of_le_of_lt (uN_mono (rLo_le n k h) (rHi_ge n k h)) (bln_lt _)
theorem wS_fits {xs : Nat → Int64} {n k : Nat} (h : k + 1 < n) : uN (xs (k + 1) - xs k - sLo xs n) < 2 ^ wS xs n := Nat.lt_of_le_of_lt (uN_mono (sLo_le n k h) (sHi_ge n k h)) (bln_lt _)
theorem l_back (x a : Int64) : a + (x - a) = x := by rw [Int64.add_comm]; exact Int64.sub_add_cancel x a
/-- how often, and the sum -/
def nC (P : Int64 → Bool) (xs : Nat → Int64) : Nat → Nat
  | 0 => 0
  | n + 1 => nC P xs n + (if P (xs n) then 1 else 0)
def nS (P : Int64 → Bool) (xs : Nat → Int64) : Nat → Int64
  | 0 => 0
  | n + 1 => nS P xs n + (if P (xs n) then xs n else 0)
/-! runs: sb m is where run m begins, k of them -/
def nUp (f : Nat → Nat) (k x : Nat) : Nat → Nat := fun j => if j = k then x else f j
theorem nUp_s {f : Nat → Nat} {k x : Nat} : nUp f k x k = x := if_pos rfl
theorem nUp_n {f : Nat → Nat} {k x j : Nat} (h : j ≠ k) : nUp f k x j = f j := if_neg h
def rDc (xs : Nat → Int64) (sb : Nat → Nat) (k : Nat) : Prop := sb 0 = 0 ∧ (∀ m, m < k → sb m < sb (m + 1)) ∧ (∀ m, m < k → ∀ j, sb m ≤ j → j < sb (m + 1) → xs j = xs (sb m)) ∧ (∀ m, m + 1 < k → ¬ xs (sb (m + 1)) = xs (sb m))
theorem rDc_0 (xs : Nat → Int64) : rDc xs (fun _ => 0) 0 := ⟨rfl, fun m h => absurd h (by omega), fun m h => absurd h (by omega), fun m h => absurd h (by omega)⟩
theorem rDc_add {xs : Nat → Int64} {sb : Nat → Nat} {k st i : Nat} (h : rDc xs sb k) (hs : sb k = st) (h1 : st < i) (h2 : ∀ j, st ≤ j → j < i → xs j = xs st) (h3 : 0 < k → ¬ xs st = xs (sb (k - 1))) : rDc xs (nUp sb (k + 1) i) (k + 1) := by
  obtain ⟨a, b, c, d⟩ := h
  refine ⟨by rw [nUp_n (by omega)]; exact a, fun m hm => ?_, fun m hm j hj1 hj2 => ?_, fun m hm => ?_⟩
  · by_cases e : m = k
    · subst e
      rw [nUp_s, nUp_n (by omega), hs]; exact h1
    · rw [nUp_n (by omega), nUp_n (by omega)]; exact b m (by omega)
  · by_cases e : m = k
    · subst e
      rw [nUp_n (by omega), hs] at hj1
      rw [nUp_s] at hj2
      rw [nUp_n (by omega), hs]; exact h2 j hj1 hj2
    · rw [nUp_n (by omega)] at hj1
      rw [nUp_n (by omega)] at hj2
      rw [nUp_n (by omega)]; exact c m (by omega) j hj1 hj2
  · rw [nUp_n (by omega), nUp_n (by omega)]
    by_cases e : m + 1 = k
    · have h4 := h3 (by omega)
      rw [show k - 1 = m by omega] at h4
      rw [e, hs]; exact h4
    · exact d m (by omega)
theorem rRn_same {xs : Nat → Int64} {a : Nat} : ∀ (c : Nat), (∀ j, a ≤ j → j < a + 1 + c → xs j = xs a) → rRn xs (a + 1 + c) = rRn xs (a + 1)
  | 0, _ => rfl
  | c + 1, h => by
    have e : a + 1 + (c + 1) = (a + c) + 2 := by omega
    rw [e]
    show rRn xs (a + c + 1) + (if xs (a + c + 1) = xs (a + c) then 0 else 1) = _
    rw [if_pos (by rw [h (a + c + 1) (by omega) (by omega), h (a + c) (by omega) (by omega)]), show a + c + 1 = a + 1 + c by omega, rRn_same c (fun j h1 h2 => h j h1 (by omega))]
    omega
theorem rDc_n {xs : Nat → Int64} {sb : Nat → Nat} : ∀ (k : Nat), rDc xs sb k → rRn xs (sb k) = k := by
  intro k
  induction k with
  | zero => intro h; rw [h.1]; rfl
  | succ k ih =>
    intro h
    obtain ⟨a, b, c, d⟩ := h
    have h0 := ih ⟨a, fun m hm => b m (by omega), fun m hm => c m (by omega), fun m hm => d m (by omega)⟩
    have h1 := b k (by omega)
    have h2 := rRn_same (xs := xs) (a := sb k) (sb (k + 1) - sb k - 1) (fun j q1 q2 => c k (by omega) j q1 (by omega))
    rw [show sb k + 1 + (sb (k + 1) - sb k - 1) = sb (k + 1) by omega] at h2
    rw [h2]
    rcases k with _ | k
    · rw [a]; rfl
    · have h3 := b k (by omega)
      have h4 := d k (by omega)
      have h5 := c k (by omega) (sb (k + 1) - 1) (by omega) (by omega)
      obtain ⟨z, hz⟩ : ∃ z, sb (k + 1) = z + 1 := ⟨sb (k + 1) - 1, by omega⟩
      rw [hz] at h0 h4 h5 ⊢
      rw [show z + 1 - 1 = z by omega] at h5
      show rRn xs (z + 1) + (if xs (z + 1) = xs z then 0 else 1) = _
      rw [if_neg (by rw [h5]; exact h4), h0]
/-! lists: each different cell once, times how often -/
def nO (pl : Nat → Nat) : Nat → Nat → Nat
  | 0, _ => 0
  | n + 1, j => nO pl n j + (if pl n = j then 1 else 0)
def sN (g : Nat → Nat) : Nat → Nat
  | 0 => 0
  | d + 1 => sN g d + g d
def sL (g : Nat → Int64) : Nat → Int64
  | 0 => 0
  | d + 1 => sL g d + g d
theorem sN_c {f g : Nat → Nat} : ∀ d, (∀ j, j < d → f j = g j) → sN f d = sN g d
  | 0, _ => rfl
  | d + 1, h => by
    show sN f d + f d = sN g d + g d
    rw [sN_c d (fun j hj => h j (by omega)), h d (by omega)]
theorem sL_c {f g : Nat → Int64} : ∀ d, (∀ j, j < d → f j = g j) → sL f d = sL g d
  | 0, _ => rfl
  | d + 1, h => by
    show sL f d + f d = sL g d + g d
    rw [sL_c d (fun j hj => h j (by omega)), h d (by omega)]
theorem sN_at {f g : Nat → Nat} {k c : Nat} : ∀ d, (∀ j, j < d → ¬ j = k → f j = g j) → (k < d → f k = g k + c) → sN f d = sN g d + (if k < d then c else 0)
  | 0, _, _ => rfl
  | d + 1, h, hk => by
    show sN f d + f d = sN g d + g d + _
    rw [sN_at (f := f) (g := g) (k := k) (c := c) d (fun j hj => h j (by omega)) (fun q => hk (by omega))]
    by_cases e : d = k
    · subst e
      rw [hk (by omega), if_neg (by omega), if_pos (by omega)]
      omega
    · rw [h d (by omega) e]
      by_cases q : k < d
      · rw [if_pos q, if_pos (by omega)]; omega
      · rw [if_neg q, if_neg (by omega)]; omega
theorem sL_at {f g : Nat → Int64} {k : Nat} {c : Int64} : ∀ d, (∀ j, j < d → ¬ j = k → f j = g j) → (k < d → f k = g k + c) → sL f d = sL g d + (if k < d then c else 0)
  | 0, _, _ => by rw [if_neg (by omega)]; exact (Int64.add_zero _).symm
  | d + 1, h, hk => by
    show sL f d + f d = sL g d + g d + _
    rw [sL_at (f := f) (g := g) (k := k) (c := c) d (fun j hj => h j (by omega)) (fun q => hk (by omega))]
    by_cases e : d = k
    · subst e
      rw [hk (by omega), if_neg (by omega), if_pos (by omega), Int64.add_zero, Int64.add_assoc]
    · rw [h d (by omega) e]
      by_cases q : k < d
      · rw [if_pos q, if_pos (by omega), Int64.add_assoc, Int64.add_comm c, ← Int64.add_assoc]
      · rw [if_neg q, if_neg (by omega), Int64.add_zero, Int64.add_zero]
/-- the cells that P takes, counted by the different ones -/
theorem nC_list {P : Int64 → Bool} {xs rs : Nat → Int64} {pl : Nat → Nat} {d : Nat} : ∀ n, (∀ i, i < n → pl i < d ∧ rs (pl i) = xs i) → sN (fun p => if P (rs p) then nO pl n p else 0) d = nC P xs n
  | 0, _ => by
    have e : ∀ d, sN (fun p => if P (rs p) then nO pl 0 p else 0) d = 0 := by
      intro d
      induction d with
      | zero => rfl
      | succ d ih =>
        show sN _ d + (if P (rs d) then 0 else 0) = 0
        rw [ih]; split <;> rfl
    exact e d
  | n + 1, h => by
    obtain ⟨h1, h2⟩ := h n (by omega)
    rw [sN_at (f := fun p => if P (rs p) then nO pl (n + 1) p else 0) (g := fun p => if P (rs p) then nO pl n p else 0) (k := pl n) (c := if P (xs n) then 1 else 0) d
      (fun j hj hn => by
        show (if P (rs j) then nO pl n j + (if pl n = j then 1 else 0) else 0) = _
        rw [if_neg (c := pl n = j) (fun q => hn q.symm), Nat.add_zero])
      (fun _ => by
        show (if P (rs (pl n)) then nO pl n (pl n) + (if pl n = pl n then 1 else 0) else 0) = (if P (rs (pl n)) then nO pl n (pl n) else 0) + _
        rw [if_pos rfl, h2]
        by_cases q : P (xs n) = true
        · rw [if_pos q, if_pos q, if_pos q]
        · rw [if_neg q, if_neg q, if_neg q]), if_pos h1, nC_list n (fun i hi => h i (by omega))]
    rfl
theorem l_m1 (x : Int64) (k : Nat) : x * lN (k + 1) = x * lN k + x := by
  rw [← lN_1, Int64.mul_add, Int64.mul_one]
theorem nS_list {P : Int64 → Bool} {xs rs : Nat → Int64} {pl : Nat → Nat} {d : Nat} : ∀ n, (∀ i, i < n → pl i < d ∧ rs (pl i) = xs i) → sL (fun p => if P (rs p) then rs p * lN (nO pl n p) else 0) d = nS P xs n
  | 0, _ => by
    have e : ∀ d, sL (fun p => if P (rs p) then rs p * lN (nO pl 0 p) else 0) d = 0 := by
      intro d
      induction d with
      | zero => rfl
      | succ d ih =>
        show sL _ d + (if P (rs d) then rs d * lN 0 else 0) = 0
        rw [ih, show lN 0 = 0 from rfl, Int64.mul_zero]
        split <;> rfl
    exact e d
  | n + 1, h => by
    obtain ⟨h1, h2⟩ := h n (by omega)
    rw [sL_at (f := fun p => if P (rs p) then rs p * lN (nO pl (n + 1) p) else 0) (g := fun p => if P (rs p) then rs p * lN (nO pl n p) else 0) (k := pl n) (c := if P (xs n) then xs n else 0) d
      (fun j hj hn => by
        show (if P (rs j) then rs j * lN (nO pl n j + (if pl n = j then 1 else 0)) else 0) = _
        rw [if_neg (c := pl n = j) (fun q => hn q.symm), Nat.add_zero])
      (fun _ => by
        show (if P (rs (pl n)) then rs (pl n) * lN (nO pl n (pl n) + (if pl n = pl n then 1 else 0)) else 0) = (if P (rs (pl n)) then rs (pl n) * lN (nO pl n (pl n)) else 0) + _
        rw [if_pos rfl, h2]
        by_cases q : P (xs n) = true
        · rw [if_pos q, if_pos q, if_pos q, l_m1]
        · rw [if_neg q, if_neg q, if_neg q]; rfl), if_pos h1, nS_list n (fun i hi => h i (by omega))]
    rfl
/-- .. and by the runs -/
theorem nC_same {P : Int64 → Bool} {xs : Nat → Int64} {a : Nat} {v : Int64} : ∀ c, (∀ j, a ≤ j → j < a + c → xs j = v) → nC P xs (a + c) = nC P xs a + (if P v then c else 0)
  | 0, _ => by
    show nC P xs a = _
    split <;> rfl
  | c + 1, h => by
    show nC P xs (a + c) + (if P (xs (a + c)) then 1 else 0) = _
    rw [nC_same c (fun j h1 h2 => h j h1 (by omega)), h (a + c) (by omega) (by omega)]
    by_cases q : P v = true
    · rw [if_pos q, if_pos q, if_pos q]; omega
    · rw [if_neg q, if_neg q, if_neg q]
theorem nS_same {P : Int64 → Bool} {xs : Nat → Int64} {a : Nat} {v : Int64} : ∀ c, (∀ j, a ≤ j → j < a + c → xs j = v) → nS P xs (a + c) = nS P xs a + (if P v then v * lN c else 0)
  | 0, _ => by
    show nS P xs a = _
    rw [show lN 0 = 0 from rfl, Int64.mul_zero]
    split <;> exact (Int64.add_zero _).symm
  | c + 1, h => by
    show nS P xs (a + c) + (if P (xs (a + c)) then xs (a + c) else 0) = _
    rw [nS_same c (fun j h1 h2 => h j h1 (by omega)), h (a + c) (by omega) (by omega)]
    by_cases q : P v = true
    · rw [if_pos q, if_pos q, if_pos q, l_m1, Int64.add_assoc]
    · rw [if_neg q, if_neg q, if_neg q, Int64.add_zero]
