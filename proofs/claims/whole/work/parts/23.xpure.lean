theorem i_lt {x : Int32} {N : Nat} (h0 : ¬ x < 0) (h1 : x < nI N) (hN : N < 2147483648) : ∃ j, j < N ∧ x = nI j := by
  obtain ⟨j, hj, rfl⟩ := nI_of h0
  exact ⟨j, (nI_ltI (by omega) (by omega)).mp h1, rfl⟩
theorem i_btw {x : Int32} {N : Nat} (h0 : ¬ x < nI 1) (h1 : x ≤ nI N) (hN : N < 2147483648) : ∃ j, 1 ≤ j ∧ j ≤ N ∧ x = nI j := by
  have h2 : ¬ x < 0 := fun h => h0 (by
    rw [Int32.lt_iff_toInt_lt] at h ⊢
    have e0 : (0 : Int32).toInt = 0 := rfl
    have e1 : (nI 1).toInt = 1 := rfl
    omega)
  obtain ⟨j, hj, rfl⟩ := nI_of h2
  refine ⟨j, ?_, (nI_leI (by omega) (by omega)).mp h1, rfl⟩
  rw [nI_ltI (by omega) (by omega)] at h0
  omega
