/-! what a column of each form holds -/
theorem fld_add {B : Nat → Bool} {bc w i : Nat} {v : Int64} {a wd : Nat → Nat} {vl : Nat → Int64} (h : ∀ j, j < i → fld B (a j) (wd j) (vl j)) (hlo : ∀ j, j < i → a j + wd j ≤ bc) (ha : a i = bc) (hv : vl i = v) (hw : wd i = w) : ∀ j, j < i + 1 → fld (bA B bc v w) (a j) (wd j) (vl j) := fun j hj => by
  by_cases q : j = i
  · subst q; rw [ha, hv, hw]; exact bA_fld B bc v w
  · exact fld_keep (h j (by omega)) (hlo j (by omega))
theorem fld_all {B : Nat → Bool} {bc w i : Nat} {v : Int64} {a wd : Nat → Nat} {vl : Nat → Int64} (h : ∀ j, j < i → fld B (a j) (wd j) (vl j)) (hlo : ∀ j, j < i → a j + wd j ≤ bc) : ∀ j, j < i → fld (bA B bc v w) (a j) (wd j) (vl j) := fun j hj => fld_keep (h j hj) (hlo j hj)
theorem mul_lo {j i w : Nat} (h : j < i) : j * w + w ≤ i * w := by
  rw [← Nat.succ_mul]
  exact Nat.mul_le_mul_right w h
theorem oB_0 (o : Nat → Int32) (B : Nat → Bool) : oB o 0 B := fun i hi => absurd hi (by omega)
theorem lN_small {k w : Nat} (h : k < 2 ^ w) (hk : k < 18446744073709551616) : ∀ t, w ≤ t → bL (lN k) t = false := bL_small (by rw [uN_lN hk]; exact h)
def lP (xs : Nat → Int64) (n bc : Nat) (B : Nat → Bool) : Prop := bc = 64 * n ∧ ∀ i, i < n → fld B (64 * i) 64 (xs i)
def lK (xs : Nat → Int64) (n bc : Nat) (B : Nat → Bool) : Prop := bc = 72 + n * wP xs n ∧ fld B 0 64 (rLo xs n) ∧ fld B 64 8 (lN (wP xs n)) ∧ ∀ i, i < n → fld B (72 + i * wP xs n) (wP xs n) (xs i - rLo xs n)
def lL (xs : Nat → Int64) (n bc : Nat) (B : Nat → Bool) : Prop := ∃ (rs : Nat → Int64) (d : Nat) (pl : Nat → Nat), rInv xs n rs d ∧ (∀ i, i < n → rPl rs d (xs i) (pl i)) ∧ bc = 16 + 64 * d + n * bln (d - 1) ∧ fld B 0 16 (lN d) ∧ (∀ k, k < d → fld B (16 + 64 * k) 64 (rs k)) ∧ ∀ i, i < n → fld B (16 + 64 * d + i * bln (d - 1)) (bln (d - 1)) (lN (pl i))
def lR (xs : Nat → Int64) (n bc : Nat) (B : Nat → Bool) : Prop := ∃ (sb : Nat → Nat), rDc xs sb (rRn xs n) ∧ sb (rRn xs n) = n ∧ bc = 16 + 80 * rRn xs n ∧ fld B 0 16 (lN (rRn xs n)) ∧ (∀ k, k < rRn xs n → fld B (16 + 80 * k) 64 (xs (sb k))) ∧ ∀ k, k < rRn xs n → fld B (16 + 80 * k + 64) 16 (lN (sb (k + 1) - sb k))
def lS (xs : Nat → Int64) (n bc : Nat) (B : Nat → Bool) : Prop := bc = 136 + (n - 1) * wS xs n ∧ fld B 0 64 (xs 0) ∧ fld B 64 64 (sLo xs n) ∧ fld B 128 8 (lN (wS xs n)) ∧ ∀ i, i < n - 1 → fld B (136 + i * wS xs n) (wS xs n) (xs (i + 1) - xs i - sLo xs n)
theorem ask_c {P : Int64 → Bool} {xs : Nat → Int64} {i : Nat} {h h1 h2 : Int32} (e : h1 = h + nI (nC P xs i)) (f : h2 = h1 + (if P (xs i) then nI 1 else 0)) : h2 = h + nI (nC P xs (i + 1)) := by
  rw [f, e, Int32.add_assoc]
  congr 1
  show nI (nC P xs i) + _ = nI (nC P xs i + _)
  by_cases q : P (xs i) = true
  · rw [if_pos q, if_pos q]; exact nI_add _ _
  · rw [if_neg q, if_neg q]; exact Int32.add_zero _
theorem ask_s {P : Int64 → Bool} {xs : Nat → Int64} {i : Nat} {t t1 t2 : Int64} (e : t1 = t + nS P xs i) (f : t2 = t1 + (if P (xs i) then xs i * (nI 1).toInt64 else 0)) : t2 = t + nS P xs (i + 1) := by
  rw [f, e, Int64.add_assoc]
  congr 1
  show nS P xs i + _ = nS P xs i + _
  rw [show (nI 1).toInt64 = 1 by decide, Int64.mul_one]
theorem lK_of {xs : Nat → Int64} {n bc wd : Nat} {lo hi : Int64} {B : Nat → Bool} (h1 : lo = rLo xs n) (h2 : hi = rHi xs n) (hw : wd = bln (uN (hi - lo))) (h3 : bc = 72 + n * wd) (h4 : fld B 0 64 lo) (h5 : fld B 64 8 (lN wd)) (h6 : ∀ i, i < n → fld B (72 + i * wd) wd (xs i - lo)) : lK xs n bc B := by
  have e : wd = wP xs n := by rw [hw, h1, h2]; rfl
  subst e
  subst h1
  exact ⟨h3, h4, h5, h6⟩
theorem lS_of {xs : Nat → Int64} {n bc wd : Nat} {sl sh : Int64} {B : Nat → Bool} (h1 : sl = sLo xs n) (h2 : sh = sHi xs n) (hw : wd = bln (uN (sh - sl))) (h3 : bc = 136 + (n - 1) * wd) (h4 : fld B 0 64 (xs 0)) (h5 : fld B 64 64 sl) (h6 : fld B 128 8 (lN wd)) (h7 : ∀ i, i < n - 1 → fld B (136 + i * wd) wd (xs (i + 1) - xs i - sl)) : lS xs n bc B := by
  have e : wd = wS xs n := by rw [hw, h1, h2]; rfl
  subst e
  subst h1
  exact ⟨h3, h4, h5, h6, h7⟩
theorem bln_pl {d p : Nat} (h : p < d) : p < 2 ^ bln (d - 1) := Nat.lt_of_le_of_lt (by omega) (bln_lt (d - 1))
theorem bln_d {d : Nat} (h : d ≤ 1024) : bln (d - 1) ≤ 10 := bln_le (by omega)
theorem rPl_lt {xs rs : Nat → Int64} {n d i t : Nat} (h : rInv xs n rs d) (hi : i < n) (ht : rPl rs d (xs i) t) : t < d ∧ rs t = xs i := by
  obtain ⟨k, h1, h2⟩ := h.2.2.1 i hi
  have e := rPl_hit h.1 ht h1 h2
  subst e
  exact ⟨h1, h2⟩
