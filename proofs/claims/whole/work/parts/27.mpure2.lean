theorem mB_bitA {m : Nat → Int32} {bc b sz bt : Nat} {B : Nat → Bool} (hm : mB m bc B) (hs : sz = (bc + 7) / 8) (hb : bt = bc % 8) (h0 : bt = 0) (h1 : b ≤ 1) (hB : b = (B bc).toNat) : mB (upd (upd m sz (nI 0)) (sz + 1 - 1) (upd m sz (nI 0) (sz + 1 - 1) + nI b <<< (nI (7 - bt) &&& 31))) (bc + 1) B := by
  have e : sz = bc / 8 := by omega
  rw [show sz + 1 - 1 = bc / 8 by omega, e, shl_b h1 (by omega), hb]
  refine mB_bit hm hB (fun i hi => ?_) ?_
  · rw [pk_un hi, pk_un hi]
  · rw [pk_us, pk_us, if_pos (by omega)]; rfl
theorem mB_bitB {m : Nat → Int32} {bc b sz bt : Nat} {B : Nat → Bool} (hm : mB m bc B) (hs : sz = (bc + 7) / 8) (hb : bt = bc % 8) (h0 : ¬ bt = 0) (h1 : b ≤ 1) (hB : b = (B bc).toNat) : mB (upd m (sz - 1) (m (sz - 1) + nI b <<< (nI (7 - bt) &&& 31))) (bc + 1) B := by
  rw [show sz - 1 = bc / 8 by omega, shl_b h1 (by omega), hb]
  refine mB_bit hm hB (fun i hi => ?_) ?_
  · rw [pk_un hi]
  · rw [pk_us, if_neg (by omega)]
theorem b_num {B : Nat → Bool} {bc w j : Nat} {v : Int64} (h : 0 < j) (hj : j ≤ w) : (if bL v (j - 1) then 1 else 0) = (bA B bc v w (bc + (w - j))).toNat := by
  rw [bA_hi (by omega), show bc + w - 1 - (bc + (w - j)) = j - 1 by omega]
  cases bL v (j - 1) <;> rfl
theorem wGt_le {n d rn : Nat} {lo hi sl sh : Int64} (hn : n ≤ 1024) (hd : d ≤ 1024) (hr : rn ≤ 1024) : ∀ k, wGt n d rn lo hi sl sh k ≤ 20000
  | 0 => by show 8 * n ≤ _; omega
  | 1 => by
    have : n * bln (uN (hi - lo)) ≤ 1024 * 64 := Nat.mul_le_mul hn (bln64 _)
    show (72 + n * bln (uN (hi - lo)) + 7) / 8 ≤ _; omega
  | 2 => by
    have : n * bln (d - 1) ≤ 1024 * 10 := Nat.mul_le_mul hn (bln_d hd)
    show (16 + 64 * d + n * bln (d - 1) + 7) / 8 ≤ _; omega
  | 3 => by show (16 + 80 * rn + 7) / 8 ≤ _; omega
  | k + 4 => by
    have : (n - 1) * bln (uN (sh - sl)) ≤ 1024 * 64 := Nat.mul_le_mul (by omega) (bln64 _)
    show (136 + (n - 1) * bln (uN (sh - sl)) + 7) / 8 ≤ _; omega
theorem cp_all {xs ys : Nat → Int64} {i : Nat} (h : ∀ j, j < i → ys j = xs j) : ∀ j, j < i + 1 → vp_updL ys i (xs i) j = xs j := fun j hj => by
  by_cases q : j = i
  · rw [q]; exact pk_uLs
  · rw [pk_uLn q]; exact h j (by omega)
theorem nC_y {P : Int64 → Bool} {ys : Nat → Int64} {i : Nat} (h : P (ys i) = true) : nC P ys (i + 1) = nC P ys i + 1 := by
  show nC P ys i + (if P (ys i) then 1 else 0) = _
  rw [if_pos h]
theorem nC_n {P : Int64 → Bool} {ys : Nat → Int64} {i : Nat} (h : P (ys i) = false) : nC P ys (i + 1) = nC P ys i + 0 := by
  show nC P ys i + (if P (ys i) then 1 else 0) = _
  rw [if_neg (by rw [h]; decide)]
theorem nC_le (P : Int64 → Bool) (ys : Nat → Int64) : ∀ i, nC P ys i ≤ i
  | 0 => Nat.le_refl 0
  | i + 1 => by
    show nC P ys i + (if P (ys i) then 1 else 0) ≤ _
    have := nC_le P ys i
    split <;> omega
theorem nS_y {P : Int64 → Bool} {ys : Nat → Int64} {i : Nat} (h : P (ys i) = true) : nS P ys (i + 1) = nS P ys i + ys i := by
  show nS P ys i + (if P (ys i) then ys i else 0) = _
  rw [if_pos h]
theorem nS_n {P : Int64 → Bool} {ys : Nat → Int64} {i : Nat} (h : P (ys i) = false) : nS P ys (i + 1) = nS P ys i + 0 := by
  show nS P ys i + (if P (ys i) then ys i else 0) = _
  rw [if_neg (by rw [h]; decide)]
theorem q4_y {lo hi v : Int64} (h1 : ¬ v < lo) (h2 : ¬ hi < v) : qF 4 lo hi v = true := by
  show (decide (lo ≤ v) && decide (v ≤ hi)) = true
  rw [decide_eq_true (Int64.not_lt.mp h1), decide_eq_true (Int64.not_lt.mp h2)]; rfl
theorem q4_a {lo hi v : Int64} (h1 : v < lo) : qF 4 lo hi v = false := by
  show (decide (lo ≤ v) && decide (v ≤ hi)) = false
  rw [decide_eq_false (Int64.not_le.mpr h1)]; rfl
theorem q4_b {lo hi v : Int64} (h1 : hi < v) : qF 4 lo hi v = false := by
  show (decide (lo ≤ v) && decide (v ≤ hi)) = false
  rw [decide_eq_false (Int64.not_le.mpr h1), Bool.and_false]
