theorem l_lc (a b c : Int64) : a + (b + c) = b + (a + c) := by rw [← Int64.add_assoc, Int64.add_comm a b, Int64.add_assoc]
/-- a step taken back: x = a + (s + (x - a - s)) -/
theorem l_st1 (x a s : Int64) : a + (s + (x - a - s)) = x := by
  rw [Int64.add_comm s, Int64.sub_add_cancel, Int64.add_comm, Int64.sub_add_cancel]
theorem l_m2 (x : Int64) (k : Nat) : lN (k + 1) * x = lN k * x + x := by rw [Int64.mul_comm, l_m1, Int64.mul_comm]
theorem l_st2 (x a s : Int64) (k : Nat) : a + lN (k + 1) * s + (x - a - s) = x + lN k * s := by
  rw [l_m2, Int64.add_assoc, Int64.add_assoc, l_lc, l_st1, Int64.add_comm]
theorem st_0 {xs : Nat → Int64} {s : Int64} (i : Nat) : xs 0 + lN i * s = xs 0 + lN (i - 0) * s := rfl
theorem st_n {xs : Nat → Int64} {s v : Int64} {i j : Nat} (h : v = xs j + lN (i - j) * s) (hj : j < i) : v + (xs (j + 1) - xs j - s) = xs (j + 1) + lN (i - (j + 1)) * s := by
  rw [h, show i - j = (i - (j + 1)) + 1 by omega]
  exact l_st2 _ _ _ _
theorem st_e {xs : Nat → Int64} {s v : Int64} {i j : Nat} (h : v = xs j + lN (i - j) * s) (hj : j = i) : v = xs i := by
  subst hj
  rw [h, Nat.sub_self, show lN 0 = 0 from rfl, Int64.zero_mul, Int64.add_zero]
/-! lists -/
theorem nO_le (pl : Nat → Nat) (j : Nat) : ∀ n, nO pl n j ≤ n
  | 0 => Nat.le_refl 0
  | n + 1 => by
    show nO pl n j + _ ≤ n + 1
    have := nO_le pl j n
    split <;> omega
theorem nO_step {pl : Nat → Nat} {g : Nat → Int32} {i : Nat} (h : ∀ j, j < 1024 → g j = nI (nO pl i j)) (hp : pl i < 1024) : ∀ j, j < 1024 → upd g (pl i) (g (pl i) + nI 1) j = nI (nO pl (i + 1) j) := fun j hj => by
  show _ = nI (nO pl i j + (if pl i = j then 1 else 0))
  by_cases q : j = pl i
  · subst q
    rw [pk_us, h _ hj, if_pos rfl]; exact nI_add _ _
  · rw [pk_un q, h j hj, if_neg (fun e => q e.symm), Nat.add_zero]
theorem nO_0 {pl : Nat → Nat} {g : Nat → Int32} (h : ∀ j, j < 1024 → g j = 0) : ∀ j, j < 1024 → g j = nI (nO pl 0 j) := fun j hj => h j hj
def lCn (P : Int64 → Bool) (rs : Nat → Int64) (pl : Nat → Nat) (n : Nat) : Nat → Nat := sN (fun p => if P (rs p) then nO pl n p else 0)
def lSm (P : Int64 → Bool) (rs : Nat → Int64) (pl : Nat → Nat) (n : Nat) : Nat → Int64 := sL (fun p => if P (rs p) then rs p * lN (nO pl n p) else 0)
theorem askL_c {P : Int64 → Bool} {rs : Nat → Int64} {pl : Nat → Nat} {n k : Nat} {h h1 h2 : Int32} (e : h1 = h + nI (lCn P rs pl n k)) (f : h2 = h1 + (if P (rs k) then nI (nO pl n k) else 0)) : h2 = h + nI (lCn P rs pl n (k + 1)) := by
  rw [f, e, Int32.add_assoc]
  congr 1
  show _ = nI (lCn P rs pl n k + (if P (rs k) then nO pl n k else 0))
  by_cases q : P (rs k) = true
  · rw [if_pos q, if_pos q]; exact nI_add _ _
  · rw [if_neg q, if_neg q]; exact Int32.add_zero _
theorem askL_s {P : Int64 → Bool} {rs : Nat → Int64} {pl : Nat → Nat} {n k : Nat} {t t1 t2 : Int64} (hn : n ≤ 1024) (e : t1 = t + lSm P rs pl n k) (f : t2 = t1 + (if P (rs k) then rs k * (nI (nO pl n k)).toInt64 else 0)) : t2 = t + lSm P rs pl n (k + 1) := by
  have hz := nO_le pl k n
  rw [nI_l (by omega)] at f
  rw [f, e, Int64.add_assoc]
  rfl
/-! runs -/
theorem rDc_le {xs : Nat → Int64} {sb : Nat → Nat} {k : Nat} (h : rDc xs sb k) : ∀ m, m ≤ k → m ≤ sb m
  | 0, _ => Nat.zero_le _
  | m + 1, hm => by
    have h1 := rDc_le h m (by omega)
    have h2 := h.2.1 m (by omega)
    omega
theorem rDc_mono {xs : Nat → Int64} {sb : Nat → Nat} {k : Nat} (h : rDc xs sb k) {a : Nat} : ∀ b, a ≤ b → b ≤ k → sb a ≤ sb b
  | 0, h1, _ => by rw [show a = 0 by omega]; exact Nat.le_refl _
  | b + 1, h1, h2 => by
    by_cases e : a = b + 1
    · rw [e]; exact Nat.le_refl _
    · exact Nat.le_trans (rDc_mono h b (by omega) (by omega)) (Nat.le_of_lt (h.2.1 b (by omega)))
def rSt (xs : Nat → Int64) (n i st k : Nat) (sb : Nat → Nat) : Prop := rDc xs sb k ∧ sb k = st ∧ (i ≤ n → st < i ∧ ∀ j, st ≤ j → j < i → xs j = xs st) ∧ (i = n + 1 → st = n) ∧ (0 < k → st < n → ¬ xs st = xs (sb (k - 1))) ∧ st ≤ n
theorem rSt_0 {xs : Nat → Int64} {n : Nat} (h : 0 < n) : rSt xs n 1 0 0 (fun _ => 0) := ⟨rDc_0 xs, rfl, fun _ => ⟨by omega, fun j h1 h2 => by rw [show j = 0 by omega]⟩, fun e => by omega, fun e => absurd e (by omega), by omega⟩
theorem rSt_run {xs : Nat → Int64} {n i st k : Nat} {sb : Nat → Nat} (h : rSt xs n i st k sb) (hi : i ≤ n) (hc : i = n ∨ ¬ xs i = xs st) : rSt xs n (i + 1) i (k + 1) (nUp sb (k + 1) i) := by
  obtain ⟨h1, h2, h3, h4, h5, h6⟩ := h
  obtain ⟨h7, h8⟩ := h3 hi
  refine ⟨rDc_add h1 h2 h7 h8 (fun hk => h5 hk (by omega)), nUp_s, fun hn => ⟨by omega, fun j q1 q2 => by rw [show j = i by omega]⟩, fun e => by omega, fun _ hn => ?_, hi⟩
  rcases hc with e | e
  · omega
  · rw [show k + 1 - 1 = k by omega, nUp_n (by omega), h2]; exact e
theorem rSt_same {xs : Nat → Int64} {n i st k : Nat} {sb : Nat → Nat} (h : rSt xs n i st k sb) (hi : i < n) (hc : xs i = xs st) : rSt xs n (i + 1) st k sb := by
  obtain ⟨h1, h2, h3, h4, h5, h6⟩ := h
  obtain ⟨h7, h8⟩ := h3 (by omega)
  refine ⟨h1, h2, fun hn => ⟨by omega, fun j q1 q2 => ?_⟩, fun e => by omega, h5, h6⟩
  by_cases e : j = i
  · rw [e]; exact hc
  · exact h8 j q1 (by omega)
theorem rSt_k {xs : Nat → Int64} {n i st k : Nat} {sb : Nat → Nat} (h : rSt xs n i st k sb) : k ≤ st := by
  have := rDc_le h.1 k (Nat.le_refl k)
  rw [h.2.1] at this
  exact this
theorem rSt_end {xs : Nat → Int64} {n st k : Nat} {sb : Nat → Nat} (h : rSt xs n (n + 1) st k sb) : sb k = n ∧ rRn xs n = k := by
  have e : sb k = n := by rw [h.2.1]; exact h.2.2.2.1 rfl
  exact ⟨e, by rw [← e]; exact rDc_n k h.1⟩
theorem fld_nUp {B : Nat → Bool} {xs : Nat → Int64} {sb : Nat → Nat} {k i : Nat} (h : ∀ m, m < k → fld B (16 + 80 * m) 64 (xs (sb m))) : ∀ m, m < k → fld B (16 + 80 * m) 64 (xs (nUp sb (k + 1) i m)) := fun m hm => by
  rw [nUp_n (by omega)]; exact h m hm
theorem fld_nUp2 {B : Nat → Bool} {sb : Nat → Nat} {k i : Nat} (h : ∀ m, m < k → fld B (16 + 80 * m + 64) 16 (lN (sb (m + 1) - sb m))) : ∀ m, m < k → fld B (16 + 80 * m + 64) 16 (lN (nUp sb (k + 1) i (m + 1) - nUp sb (k + 1) i m)) := fun m hm => by
  rw [nUp_n (by omega), nUp_n (by omega)]; exact h m hm
theorem lR_of {xs : Nat → Int64} {n bc rn st k : Nat} {sb : Nat → Nat} {B : Nat → Bool} (h : rSt xs n (n + 1) st k sb) (hr : rn = rRn xs n) (h1 : bc = 16 + 80 * k) (h2 : fld B 0 16 (lN rn)) (h3 : ∀ m, m < k → fld B (16 + 80 * m) 64 (xs (sb m))) (h4 : ∀ m, m < k → fld B (16 + 80 * m + 64) 16 (lN (sb (m + 1) - sb m))) : lR xs n bc B := by
  obtain ⟨e1, e2⟩ := rSt_end h
  rw [hr] at h2
  refine ⟨sb, ?_⟩
  rw [e2] at h2 ⊢
  exact ⟨h.1, e1, h1, h2, h3, h4⟩
theorem nC_run {P : Int64 → Bool} {xs : Nat → Int64} {sb : Nat → Nat} {k m : Nat} (h : rDc xs sb k) (hm : m < k) : nC P xs (sb (m + 1)) = nC P xs (sb m) + (if P (xs (sb m)) then sb (m + 1) - sb m else 0) := by
  have h1 := h.2.1 m hm
  have h2 := nC_same (P := P) (xs := xs) (a := sb m) (v := xs (sb m)) (sb (m + 1) - sb m) (fun j q1 q2 => h.2.2.1 m hm j q1 (by omega))
  rw [show sb m + (sb (m + 1) - sb m) = sb (m + 1) by omega] at h2
  exact h2
theorem nS_run {P : Int64 → Bool} {xs : Nat → Int64} {sb : Nat → Nat} {k m : Nat} (h : rDc xs sb k) (hm : m < k) : nS P xs (sb (m + 1)) = nS P xs (sb m) + (if P (xs (sb m)) then xs (sb m) * lN (sb (m + 1) - sb m) else 0) := by
  have h1 := h.2.1 m hm
  have h2 := nS_same (P := P) (xs := xs) (a := sb m) (v := xs (sb m)) (sb (m + 1) - sb m) (fun j q1 q2 => h.2.2.1 m hm j q1 (by omega))
  rw [show sb m + (sb (m + 1) - sb m) = sb (m + 1) by omega] at h2
  exact h2
theorem askR_c {P : Int64 → Bool} {xs : Nat → Int64} {sb : Nat → Nat} {k m : Nat} {h0 h1 h2 : Int32} (h : rDc xs sb k) (hm : m < k) (e : h1 = h0 + nI (nC P xs (sb m))) (f : h2 = h1 + (if P (xs (sb m)) then nI (sb (m + 1) - sb m) else 0)) : h2 = h0 + nI (nC P xs (sb (m + 1))) := by
  rw [f, e, Int32.add_assoc, nC_run h hm]
  congr 1
  by_cases q : P (xs (sb m)) = true
  · rw [if_pos q, if_pos q]; exact nI_add _ _
  · rw [if_neg q, if_neg q]; exact Int32.add_zero _
theorem askR_s {P : Int64 → Bool} {xs : Nat → Int64} {sb : Nat → Nat} {k m : Nat} {t0 t1 t2 : Int64} (h : rDc xs sb k) (hm : m < k) (hs : sb (m + 1) ≤ 1024) (e : t1 = t0 + nS P xs (sb m)) (f : t2 = t1 + (if P (xs (sb m)) then xs (sb m) * (nI (sb (m + 1) - sb m)).toInt64 else 0)) : t2 = t0 + nS P xs (sb (m + 1)) := by
  rw [nI_l (by omega)] at f
  rw [f, e, Int64.add_assoc, nS_run h hm]
