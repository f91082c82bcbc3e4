/-! the different cells in rising order: rs, d of them; the place of v; the coming of a cell -/
def rSo (rs : Nat → Int64) (d : Nat) : Prop := ∀ i j, i < j → j < d → rs i < rs j
def rPl (rs : Nat → Int64) (d : Nat) (v : Int64) (t : Nat) : Prop := t ≤ d ∧ (∀ i, i < t → rs i < v) ∧ (∀ i, t ≤ i → i < d → ¬ rs i < v)
theorem ll_t {a b : Int64} : a < b ↔ a.toInt < b.toInt := Int64.lt_iff_toInt_lt
theorem ll_e {a b : Int64} (h : a.toInt = b.toInt) : a = b := Int64.toInt_inj.mp h
theorem ll_ne {a b : Int64} (h1 : ¬ a < b) (h2 : ¬ b < a) : a = b := ll_e (by rw [ll_t] at h1 h2; omega)
theorem ll_tr {a b c : Int64} (h1 : a < b) (h2 : b < c) : a < c := by rw [ll_t] at h1 h2 ⊢; omega
theorem ll_ir {a : Int64} : ¬ a < a := by rw [ll_t]; omega
theorem rPl_ex {rs : Nat → Int64} (v : Int64) : ∀ {d : Nat}, rSo rs d → ∃ t, rPl rs d v t := by
  intro d
  induction d with
  | zero => intro _; exact ⟨0, Nat.le_refl 0, fun i h => absurd h (by omega), fun i _ h => absurd h (by omega)⟩
  | succ d ih =>
    intro h
    obtain ⟨t, h1, h2, h3⟩ := ih (fun i j hij hj => h i j hij (by omega))
    by_cases ht : t < d
    · refine ⟨t, by omega, h2, fun i hi hd => ?_⟩
      by_cases hid : i < d
      · exact h3 i hi hid
      · intro hv
        have e : i = d := by omega
        subst e
        exact h3 t (Nat.le_refl t) ht (ll_tr (h t i ht (by omega)) hv)
    · by_cases hv : rs d < v
      · refine ⟨d + 1, Nat.le_refl _, fun i hi => ?_, fun i hi hd => absurd hi (by omega)⟩
        by_cases hid : i < d
        · exact h2 i (by omega)
        · have e : i = d := by omega
          rw [e]; exact hv
      · refine ⟨d, by omega, fun i hi => h2 i (by omega), fun i hi hd => ?_⟩
        have e : i = d := by omega
        rw [e]; exact hv
theorem rPl_un {rs : Nat → Int64} {d : Nat} {v : Int64} {t u : Nat} (h : rPl rs d v t) (g : rPl rs d v u) : t = u := by
  rcases Nat.lt_trichotomy t u with q | q | q
  · exact absurd (g.2.1 t q) (h.2.2 t (Nat.le_refl t) (by have := g.1; omega))
  · exact q
  · exact absurd (h.2.1 u q) (g.2.2 u (Nat.le_refl u) (by have := h.1; omega))
theorem rPl_hit {rs : Nat → Int64} {d : Nat} {v : Int64} {t i : Nat} (hs : rSo rs d) (h : rPl rs d v t) (hi : i < d) (e : rs i = v) : t = i := by
  rcases Nat.lt_trichotomy t i with q | q | q
  · exact absurd (by rw [← e]; exact hs t i q hi) (h.2.2 t (Nat.le_refl t) (by omega))
  · exact q
  · exact absurd (h.2.1 i q) (by rw [e]; exact ll_ir)
/-- v comes in at t -/
def rIns (rs : Nat → Int64) (d t : Nat) (v : Int64) : Nat → Int64 := vp_updL (va_cpy rs rs t (t + 1) (d - t)) t v
theorem rIns_lo {rs : Nat → Int64} {d t : Nat} {v : Int64} {k : Nat} (h : k < t) : rIns rs d t v k = rs k := by
  unfold rIns
  rw [pk_uLn (by omega)]
  exact if_neg (by omega)
theorem rIns_at {rs : Nat → Int64} {d t : Nat} {v : Int64} : rIns rs d t v t = v := pk_uLs
theorem rIns_hi {rs : Nat → Int64} {d t : Nat} {v : Int64} {k : Nat} (h : t < k) (hk : k ≤ d) : rIns rs d t v k = rs (k - 1) := by
  unfold rIns
  rw [pk_uLn (by omega)]
  have e : va_cpy rs rs t (t + 1) (d - t) k = rs (t + (k - (t + 1))) := if_pos (by omega)
  rw [e]
  congr 1
  omega
theorem rSo_ins {rs : Nat → Int64} {d t : Nat} {v : Int64} (hs : rSo rs d) (hp : rPl rs d v t) (hn : ¬ (t < d ∧ rs t = v)) : rSo (rIns rs d t v) (d + 1) := by
  intro i j hij hj
  obtain ⟨p1, p2, p3⟩ := hp
  have up : ∀ k, t ≤ k → k < d → v < rs k := fun k hk hd => by
    have h0 : v < rs t := by
      have h1 := p3 t (Nat.le_refl t) (by omega)
      by_cases h2 : v < rs t
      · exact h2
      · exact absurd ⟨by omega, ll_ne h1 h2⟩ hn
    by_cases e : k = t
    · rw [e]; exact h0
    · exact ll_tr h0 (hs t k (by omega) hd)
  rcases Nat.lt_trichotomy i t with q | q | q
  · rw [rIns_lo q]
    rcases Nat.lt_trichotomy j t with r | r | r
    · rw [rIns_lo r]; exact hs i j hij (by omega)
    · rw [r, rIns_at]; exact p2 i q
    · rw [rIns_hi r (by omega)]; exact ll_tr (p2 i q) (up (j - 1) (by omega) (by omega))
  · rw [q, rIns_at, rIns_hi (by omega) (by omega)]
    exact up (j - 1) (by omega) (by omega)
  · rw [rIns_hi q (by omega), rIns_hi (by omega) (by omega)]
    exact hs (i - 1) (j - 1) (by omega) (by omega)
/-- rs holds each of the first n cells of xs once, rising -/
def rInv (xs : Nat → Int64) (n : Nat) (rs : Nat → Int64) (d : Nat) : Prop := rSo rs d ∧ d ≤ n ∧ (∀ k, k < n → ∃ i, i < d ∧ rs i = xs k) ∧ (∀ i, i < d → ∃ k, k < n ∧ xs k = rs i) ∧ (0 < n → 0 < d)
theorem rInv_0 (xs rs : Nat → Int64) : rInv xs 0 rs 0 := ⟨fun i j h hj => absurd hj (by omega), Nat.le_refl 0, fun k h => absurd h (by omega), fun i h => absurd h (by omega), fun h => absurd h (by omega)⟩
theorem rInv_old {xs rs : Nat → Int64} {n d t : Nat} {v : Int64} (h : rInv xs n rs d) (ht : t < d) (e : rs t = v) : rInv (vp_updL xs n v) (n + 1) rs d := by
  obtain ⟨h1, h2, h3, h4, h5⟩ := h
  refine ⟨h1, by omega, fun k hk => ?_, fun i hi => ?_, fun _ => by omega⟩
  · by_cases q : k = n
    · exact ⟨t, ht, by rw [q, pk_uLs]; exact e⟩
    · obtain ⟨i, a, b⟩ := h3 k (by omega)
      exact ⟨i, a, by rw [pk_uLn q]; exact b⟩
  · obtain ⟨k, a, b⟩ := h4 i hi
    exact ⟨k, by omega, by rw [pk_uLn (by omega)]; exact b⟩
theorem rInv_new {xs rs : Nat → Int64} {n d t : Nat} {v : Int64} (h : rInv xs n rs d) (hp : rPl rs d v t) (hn : ¬ (t < d ∧ rs t = v)) : rInv (vp_updL xs n v) (n + 1) (rIns rs d t v) (d + 1) := by
  obtain ⟨h1, h2, h3, h4, h5⟩ := h
  refine ⟨rSo_ins h1 hp hn, by omega, fun k hk => ?_, fun i hi => ?_, fun _ => by omega⟩
  · by_cases q : k = n
    · exact ⟨t, by have := hp.1; omega, by rw [q, pk_uLs, rIns_at]⟩
    · obtain ⟨i, a, b⟩ := h3 k (by omega)
      rw [pk_uLn q]
      by_cases r : i < t
      · exact ⟨i, by omega, by rw [rIns_lo r]; exact b⟩
      · exact ⟨i + 1, by omega, by rw [rIns_hi (by omega) (by omega)]; exact b⟩
  · rcases Nat.lt_trichotomy i t with q | q | q
    · obtain ⟨k, a, b⟩ := h4 i (by have := hp.1; omega)
      exact ⟨k, by omega, by rw [pk_uLn (by omega), rIns_lo q]; exact b⟩
    · exact ⟨n, by omega, by rw [pk_uLs, q, rIns_at]⟩
    · obtain ⟨k, a, b⟩ := h4 (i - 1) (by omega)
      exact ⟨k, by omega, by rw [pk_uLn (by omega), rIns_hi q (by omega)]; exact b⟩
/-- one turn of the search by halves: t is the place, 2 ^ k the width of what is left -/
theorem rBs_up {rs : Nat → Int64} {d : Nat} {v : Int64} {t p j : Nat} (h : rPl rs d v t) (h1 : p + j ≤ d) (hj : 0 < j) (hv : rs (p + j - 1) < v) : p + j ≤ t := by
  by_cases q : p + j ≤ t
  · exact q
  · exact absurd hv (h.2.2 (p + j - 1) (by omega) (by omega))
theorem rBs_dn {rs : Nat → Int64} {d : Nat} {v : Int64} {t p j : Nat} (h : rPl rs d v t) (hj : 0 < j) (hv : d < p + j ∨ ¬ rs (p + j - 1) < v) : t < p + j := by
  rcases hv with q | q
  · have := h.1; omega
  · by_cases r : t < p + j
    · exact r
    · exact absurd (h.2.1 (p + j - 1) (by omega)) q
/-! runs, the least and the greatest, steps -/
def rRn (xs : Nat → Int64) : Nat → Nat
  | 0 => 0
  | 1 => 1
  | n + 2 => rRn xs (n + 1) + (if xs (n + 1) = xs n then 0 else 1)
def lMin (a b : Int64) : Int64 := if b < a then b else a
def lMax (a b : Int64) : Int64 := if b < a then a else b
def rLo (xs : Nat → Int64) : Nat → Int64
  | 0 => 0
  | 1 => xs 0
  | n + 2 => lMin (rLo xs (n + 1)) (xs (n + 1))
def rHi (xs : Nat → Int64) : Nat → Int64
  | 0 => 0
  | 1 => xs 0
  | n + 2 => lMax (rHi xs (n + 1)) (xs (n + 1))
def sLo (xs : Nat → Int64) : Nat → Int64
  | 0 => 0
  | 1 => 0
  | 2 => xs 1 - xs 0
  | n + 3 => lMin (sLo xs (n + 2)) (xs (n + 2) - xs (n + 1))
def sHi (xs : Nat → Int64) : Nat → Int64
  | 0 => 0
  | 1 => 0
  | 2 => xs 1 - xs 0
  | n + 3 => lMax (sHi xs (n + 2)) (xs (n + 2) - xs (n + 1))
theorem rRn_c {xs ys : Nat → Int64} : ∀ (n : Nat), (∀ k, k < n → xs k = ys k) → rRn xs n = rRn ys n
  | 0, _ => rfl
  | 1, _ => rfl
  | n + 2, h => by
    show rRn xs (n + 1) + _ = rRn ys (n + 1) + _
    rw [rRn_c (n + 1) (fun k hk => h k (by omega)), h (n + 1) (by omega), h n (by omega)]
theorem rLo_c {xs ys : Nat → Int64} : ∀ (n : Nat), (∀ k, k < n → xs k = ys k) → rLo xs n = rLo ys n
  | 0, _ => rfl
  | 1, h => h 0 (by omega)
  | n + 2, h => by
    show lMin (rLo xs (n + 1)) _ = lMin (rLo ys (n + 1)) _
    rw [rLo_c (n + 1) (fun k hk => h k (by omega)), h (n + 1) (by omega)]
theorem rHi_c {xs ys : Nat → Int64} : ∀ (n : Nat), (∀ k, k < n → xs k = ys k) → rHi xs n = rHi ys n
  | 0, _ => rfl
  | 1, h => h 0 (by omega)
  | n + 2, h => by
    show lMax (rHi xs (n + 1)) _ = lMax (rHi ys (n + 1)) _
    rw [rHi_c (n + 1) (fun k hk => h k (by omega)), h (n + 1) (by omega)]
theorem sLo_c {xs ys : Nat → Int64} : ∀ (n : Nat), (∀ k, k < n → xs k = ys k) → sLo xs n = sLo ys n
  | 0, _ => rfl
  | 1, _ => rfl
  | 2, h => by
    show xs 1 - xs 0 = ys 1 - ys 0
    rw [h 1 (by omega), h 0 (by omega)]
  | n + 3, h => by
    show lMin (sLo xs (n + 2)) _ = lMin (sLo ys (n + 2)) _
    rw [sLo_c (n + 2) (fun k hk => h k (by omega)), h (n + 2) (by omega), h (n + 1) (by omega)]
theorem sHi_c {xs ys : Nat → Int64} : ∀ (n : Nat), (∀ k, k < n → xs k = ys k) → sHi xs n = sHi ys n
  | 0, _ => rfl
  | 1, _ => rfl
  | 2, h => by
    show xs 1 - xs 0 = ys 1 - ys 0
    rw [h 1 (by omega), h 0 (by omega)]
  | n + 3, h => by
    show lMax (sHi xs (n + 2)) _ = lMax (sHi ys (n + 2)) _
    rw [sHi_c (n + 2) (fun k hk => h k (by omega)), h (n + 2) (by omega), h (n + 1) (by omega)]
theorem uL_lo {xs : Nat → Int64} {n : Nat} {v : Int64} : ∀ k, k < n → vp_updL xs n v k = xs k := fun k hk => pk_uLn (by omega)
theorem l_sub0 {a b : Int64} : a - b = 0 ↔ a = b := by
  constructor
  · intro h
    have h2 := Int64.sub_add_cancel a b
    rw [h, Int64.zero_add] at h2
    exact h2.symm
  · intro h
    rw [h]; exact Int64.sub_self b
theorem rRn_add {xs : Nat → Int64} {n : Nat} {v : Int64} (h : 0 < n) : rRn (vp_updL xs n v) (n + 1) = rRn xs n + (if v - xs (n - 1) = 0 then 0 else 1) := by
  obtain ⟨m, rfl⟩ : ∃ m, n = m + 1 := ⟨n - 1, by omega⟩
  show rRn (vp_updL xs (m + 1) v) (m + 1) + (if vp_updL xs (m + 1) v (m + 1) = vp_updL xs (m + 1) v m then 0 else 1) = _
  rw [rRn_c (m + 1) uL_lo, pk_uLs, pk_uLn (by omega), show m + 1 - 1 = m by omega]
  simp only [l_sub0]
theorem rLo_add {xs : Nat → Int64} {n : Nat} {v : Int64} (h : 0 < n) : rLo (vp_updL xs n v) (n + 1) = lMin (rLo xs n) v := by
  obtain ⟨m, rfl⟩ : ∃ m, n = m + 1 := ⟨n - 1, by omega⟩
  show lMin (rLo (vp_updL xs (m + 1) v) (m + 1)) (vp_updL xs (m + 1) v (m + 1)) = _
  rw [rLo_c (m + 1) uL_lo, pk_uLs]
theorem rHi_add {xs : Nat → Int64} {n : Nat} {v : Int64} (h : 0 < n) : rHi (vp_updL xs n v) (n + 1) = lMax (rHi xs n) v := by
  obtain ⟨m, rfl⟩ : ∃ m, n = m + 1 := ⟨n - 1, by omega⟩
  show lMax (rHi (vp_updL xs (m + 1) v) (m + 1)) (vp_updL xs (m + 1) v (m + 1)) = _
  rw [rHi_c (m + 1) uL_lo, pk_uLs]
theorem sLo_add {xs : Nat → Int64} {n : Nat} {v : Int64} (h : 0 < n) : sLo (vp_updL xs n v) (n + 1) = if n = 1 then v - xs (n - 1) else lMin (sLo xs n) (v - xs (n - 1)) := by
  by_cases h1 : n = 1
  · subst h1
    show vp_updL xs 1 v 1 - vp_updL xs 1 v 0 = _
    rw [pk_uLs, pk_uLn (by omega), if_pos rfl]
  · obtain ⟨m, rfl⟩ : ∃ m, n = m + 2 := ⟨n - 2, by omega⟩
    show lMin (sLo (vp_updL xs (m + 2) v) (m + 2)) (vp_updL xs (m + 2) v (m + 2) - vp_updL xs (m + 2) v (m + 1)) = _
    rw [sLo_c (m + 2) uL_lo, pk_uLs, pk_uLn (by omega), if_neg h1, show m + 2 - 1 = m + 1 by omega]
theorem sHi_add {xs : Nat → Int64} {n : Nat} {v : Int64} (h : 0 < n) : sHi (vp_updL xs n v) (n + 1) = if n = 1 then v - xs (n - 1) else lMax (sHi xs n) (v - xs (n - 1)) := by
  by_cases h1 : n = 1
  · subst h1
    show vp_updL xs 1 v 1 - vp_updL xs 1 v 0 = _
    rw [pk_uLs, pk_uLn (by omega), if_pos rfl]
  · obtain ⟨m, rfl⟩ : ∃ m, n = m + 2 := ⟨n - 2, by omega⟩
    show lMax (sHi (vp_updL xs (m + 2) v) (m + 2)) (vp_updL xs (m + 2) v (m + 2) - vp_updL xs (m + 2) v (m + 1)) = _
    rw [sHi_c (m + 2) uL_lo, pk_uLs, pk_uLn (by omega), if_neg h1, show m + 2 - 1 = m + 1 by omega]
theorem r_one {xs : Nat → Int64} {v : Int64} : rRn (vp_updL xs 0 v) 1 = 1 ∧ rLo (vp_updL xs 0 v) 1 = v ∧ rHi (vp_updL xs 0 v) 1 = v ∧ sLo (vp_updL xs 0 v) 1 = 0 ∧ sHi (vp_updL xs 0 v) 1 = 0 := ⟨rfl, pk_uLs, pk_uLs, rfl, rfl⟩
theorem rRn_le {xs : Nat → Int64} : ∀ n, rRn xs n ≤ n
  | 0 => Nat.le_refl 0
  | 1 => Nat.le_refl 1
  | n + 2 => by
    show rRn xs (n + 1) + _ ≤ _
    have h := rRn_le (xs := xs) (n + 1)
    split <;> omega
/-- what the fields of a row say of its cells -/
def rAll (xs : Nat → Int64) (n d r : Nat) (lo hi ls hs : Int64) (rs : Nat → Int64) : Prop := n ≤ 1024 ∧ rInv xs n rs d ∧ r = rRn xs n ∧ (0 < n → lo = rLo xs n ∧ hi = rHi xs n ∧ ls = sLo xs n ∧ hs = sHi xs n)
def isPw (j : Nat) : Prop := j = 0 ∨ ∃ z, j = 2 ^ z
theorem pw_half {j : Nat} (h : isPw j) (h0 : 0 < j) : (j = 1 ∨ j = 2 * (j / 2)) ∧ isPw (j / 2) := by
  rcases h with h | ⟨z, h⟩
  · omega
  · rcases z with _ | z
    · have e : j = 1 := h
      exact ⟨Or.inl e, Or.inl (by omega)⟩
    · have e : j = 2 * 2 ^ z := by rw [h, Nat.pow_succ]; omega
      exact ⟨Or.inr (by omega), Or.inr ⟨z, by omega⟩⟩
theorem rAll_1 {xs rs rs2 : Nat → Int64} {n d rn d2 : Nat} {lo hi sl sh v : Int64} (h : rAll xs n d rn lo hi sl sh rs) (hn : n < 1024) (h0 : n = 0) (hg : rInv (vp_updL xs n v) (n + 1) rs2 d2) : rAll (vp_updL xs n v) (n + 1) d2 1 v v 0 0 rs2 := by
  subst h0
  exact ⟨by omega, hg, rfl, fun _ => ⟨pk_uLs.symm, pk_uLs.symm, rfl, rfl⟩⟩
theorem rAll_n {xs rs rs2 : Nat → Int64} {n d rn d2 rn2 : Nat} {lo hi sl sh sl2 sh2 v : Int64} (h : rAll xs n d rn lo hi sl sh rs) (hn : n < 1024) (h0 : ¬ n = 0) (f1 : rn2 = rn + (if v - xs (n - 1) = 0 then 0 else 1)) (f2 : sl2 = if n = 1 then v - xs (n - 1) else lMin sl (v - xs (n - 1))) (f3 : sh2 = if n = 1 then v - xs (n - 1) else lMax sh (v - xs (n - 1))) (hg : rInv (vp_updL xs n v) (n + 1) rs2 d2) : rAll (vp_updL xs n v) (n + 1) d2 rn2 (lMin lo v) (lMax hi v) sl2 sh2 rs2 := by
  obtain ⟨h1, h2, h3, h4⟩ := h
  obtain ⟨e1, e2, e3, e4⟩ := h4 (by omega)
  refine ⟨by omega, hg, ?_, fun _ => ⟨?_, ?_, ?_, ?_⟩⟩
  · rw [f1, h3, rRn_add (by omega)]
  · rw [rLo_add (by omega), ← e1]
  · rw [rHi_add (by omega), ← e2]
  · rw [sLo_add (by omega), ← e3, f2]
  · rw [sHi_add (by omega), ← e4, f3]
