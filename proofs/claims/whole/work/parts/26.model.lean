set_option maxHeartbeats 4000000 in
set_option maxRecDepth 100000 in
theorem m_digits (l : Launch) (D : va_G) (cJ cB cI cF : ClassId) (x : Int64) (sz : Nat) : Met l yMo_digits (Cond.code yMo_digits cMo_digits 4 (some .int) :: wsG) ({ frames := 0, cells := 0, slots := 0, locals := 0 }) (va_Pc [.long x] (cfPre D (cfT cJ cB cI cF) [] sz)) (va_Qi (fun (r : Int32) (u : Unit) => r = nI (bln (uN x)) ∧ True) (fun u t => cfPost D ((fun (u : Unit) => []) u) (va_A [] sz) t) (va_A [] sz)) 0 0 (va_A [] sz) := by
  refine met_i (cc := cMo_digits) (maxL := 4) (S := Unit) (D := D) (wO := fun (u : Unit) => []) (by decide) (Nat.le_of_ble_eq_true rfl) ?_
  intro p e s m below meth c hx hb hml hown hts hlocks hin hWd A hA hsz hP hK hD hS Q hret ls hl
  have hown : s.vm.findClass "ColumnFormsModel" = some m.cls := hown
  have hl : lv_has ls 4 [(0, .long x)] := hl
  have hP : va_P D vwCl [] s.heap := hP
  refine lv_iconst (v := nI 0) hx hb dMo_digits_0 (by decide) ?_
  refine lv_istore_n (lv' := [(2, .int (nI 0)), (0, .long x)]) hx hb dMo_digits_1 rfl hl (by decide) rfl (fun ls hl => ?_)
  refine lv_iconst (v := nI 0) hx hb dMo_digits_2 (by decide) ?_
  refine lv_istore_n (lv' := [(3, .int (nI 0)), (2, .int (nI 0)), (0, .long x)]) hx hb dMo_digits_3 rfl hl (by decide) rfl (fun ls hl => ?_)
  have lp : ∀ (k_lp : Nat) (k : Nat) (nn : Nat), (k ≤ 64) → (nn = bln (uN x % 2 ^ k)) → (64 - k < k_lp) → ∀ (H : Heap) (locs : List Loc) (ls : Array Slot), va_P D vwCl [] H → va_D A [] → va_S A s.heap H locs → lv_has ls 4 [(0, .long x), (2, .int (nI nn)), (3, .int (nI k))] → W p l e ({ frames := 0, cells := 0, slots := 0, locals := 0 }) s m ([.long x].toArray) below meth c H locs (0) (0) Q (F0 m 4 ls []) := by
    intro k_lp
    induction k_lp with
    | zero => intro k nn g1 g2 hfu; exact absurd hfu (by omega)
    | succ k_lp ih_lp =>
      intro k nn g1 g2 hfu H locs ls hP hD hS hl
      refine lv_iload_n hx hb dMo_digits_4 rfl (lv_at hl 2 rfl) ?_
      refine lv_bipush (v := nI 64) hx hb dMo_digits_5 (by decide) ?_
      refine lv_icmp_ge (tgt := 34) hx hb dMo_digits_7 (by decide) (fun c7 => ?_) (fun c7 => ?_)
      · have c7 : 64 ≤ k := (nI_leI (by omega) (by omega)).mp c7
        refine lv_iload_n hx hb dMo_digits_34 rfl (lv_at hl 1 rfl) ?_
        exact hret (nI nn) () _ _ _ _ _ _ ⟨congrArg nI (by rw [g2, show k = 64 by omega, Nat.mod_eq_of_lt (uN_lt x)]), trivial⟩ (hP.sub [] rfl) (hD.sub [] (by decide) rfl) hS (Nat.le_of_ble_eq_true rfl) (Nat.le_of_ble_eq_true rfl) dMo_digits_35
      · have c7 : ¬ 64 ≤ k := fun h => c7 ((nI_leI (by omega) (by omega)).mpr h)
        refine lv_lload_n hx hb dMo_digits_10 rfl (lv_at hl 0 rfl) ?_
        refine lv_iload_n hx hb dMo_digits_11 rfl (lv_at hl 2 rfl) ?_
        refine lv_lshr hx hb dMo_digits_12 rfl ?_
        refine lv_lconst (v := 1) hx hb dMo_digits_13 (by decide) ?_
        refine lv_land hx hb dMo_digits_14 ?_
        refine lv_lconst (v := 1) hx hb dMo_digits_15 (by decide) ?_
        refine W.lcmp hx hb dMo_digits_16 ?_
        refine lv_if_ne (tgt := 26) hx hb dMo_digits_17 (by decide) (fun c17 => ?_) (fun c17 => ?_)
        · have c17 : ¬ ((x >>> ((nI k).toInt64 &&& 63)) &&& 1) = 1 := fun h => c17 ((lg_cmp_eq _ _).mpr h)
          refine lv_iload_n hx hb dMo_digits_26 rfl (lv_at hl 1 rfl) ?_
          refine lv_istore_n (lv' := [(2, .int (nI nn)), (0, .long x), (3, .int (nI k))]) hx hb dMo_digits_27 rfl hl (by decide) rfl (fun ls hl => ?_)
          refine lv_iinc (v := nI (k + 1)) (lv' := [(3, .int (nI (k + 1))), (2, .int (nI nn)), (0, .long x)]) hx hb dMo_digits_28 hl (k := 2) rfl (by rw [show (Int32.ofInt 1) = nI 1 from by decide]; exact nI_add _ _) (by decide) rfl (fun ls hl => ?_)
          refine lv_goto (tgt := 4) hx hb dMo_digits_31 (by decide) ?_
          exact ih_lp (k + 1) nn (by omega) (by rw [g2]; exact (bln_f (fun h => c17 ((sh1_1 x (by omega)).mpr h))).symm) (by omega) _ _ _ (hP.sub [] rfl) (hD.sub [] (by decide) rfl) hS (lv_sub hl [2, 1, 0] rfl)
        · have c17 : ((x >>> ((nI k).toInt64 &&& 63)) &&& 1) = 1 := (lg_cmp_eq _ _).mp c17
          refine lv_iload_n hx hb dMo_digits_20 rfl (lv_at hl 2 rfl) ?_
          refine lv_iconst (v := nI 1) hx hb dMo_digits_21 (by decide) ?_
          refine lv_iadd hx hb dMo_digits_22 ?_
          refine tp_i (show ((nI k) + (nI 1)) = (nI (k + 1)) from nI_add _ _) ?_
          refine lv_goto (tgt := 27) hx hb dMo_digits_23 (by decide) ?_
          refine lv_istore_n (lv' := [(2, .int (nI (k + 1))), (0, .long x), (3, .int (nI k))]) hx hb dMo_digits_27 rfl hl (by decide) rfl (fun ls hl => ?_)
          refine lv_iinc (v := nI (k + 1)) (lv' := [(3, .int (nI (k + 1))), (2, .int (nI (k + 1))), (0, .long x)]) hx hb dMo_digits_28 hl (k := 2) rfl (by rw [show (Int32.ofInt 1) = nI 1 from by decide]; exact nI_add _ _) (by decide) rfl (fun ls hl => ?_)
          refine lv_goto (tgt := 4) hx hb dMo_digits_31 (by decide) ?_
          exact ih_lp (k + 1) (k + 1) (by omega) ((bln_t ((sh1_1 x (by omega)).mp c17)).symm) (by omega) _ _ _ (hP.sub [] rfl) (hD.sub [] (by decide) rfl) hS (lv_sub hl [2, 1, 0] rfl)
  exact lp (64 - 0 + 1) 0 0 (by omega) (by rw [Nat.pow_zero, Nat.mod_one]; rfl) (by omega) _ _ _ (hP.sub [] rfl) (hD.sub [] (by decide) rfl) hS (lv_sub hl [2, 1, 0] rfl)

set_option maxHeartbeats 4000000 in
set_option maxRecDepth 100000 in
theorem m_least (l : Launch) (D : va_G) (cJ cB cI cF : ClassId) (qm : Nat) (cd : Int32) (n : Nat) (qmr : Nat) (fm : Int32) (cm : Nat) (qmc : Nat) (szv : Nat) (qmb : Nat) (btv : Nat) (dm : Nat) (qml : Nat) (xs : Nat → Int64) (sz : Nat) (hn0 : 0 < n) (hn : n ≤ 1024) : Met l yMo_least (Cond.code yMo_least cMo_least 4 (some .long) :: wsG) ({ frames := 0, cells := 0, slots := 0, locals := 0 }) (va_Pc [.ref qm] (cfPre D (cfT cJ cB cI cF) [(qm, .inr (9, [.int cd, .int (nI n), .ref qmr, .int fm, .int (nI cm), .ref qmc, .int (nI szv), .ref qmb, .int (nI btv), .int (nI dm), .ref qml])), (qmr, .inl (cJ, 1024, .inr (.inl xs)))] sz)) (va_Ql (fun (r : Int64) (u : Unit) => r = rLo xs n ∧ True) (fun u t => cfPost D ((fun (u : Unit) => [(qm, .inr (9, [.int cd, .int (nI n), .ref qmr, .int fm, .int (nI cm), .ref qmc, .int (nI szv), .ref qmb, .int (nI btv), .int (nI dm), .ref qml])), (qmr, .inl (cJ, 1024, .inr (.inl xs)))]) u) (va_A [(qm, .inr (9, [.int cd, .int (nI n), .ref qmr, .int fm, .int (nI cm), .ref qmc, .int (nI szv), .ref qmb, .int (nI btv), .int (nI dm), .ref qml])), (qmr, .inl (cJ, 1024, .inr (.inl xs)))] sz) t) (va_A [(qm, .inr (9, [.int cd, .int (nI n), .ref qmr, .int fm, .int (nI cm), .ref qmc, .int (nI szv), .ref qmb, .int (nI btv), .int (nI dm), .ref qml])), (qmr, .inl (cJ, 1024, .inr (.inl xs)))] sz)) 0 0 (va_A [(qm, .inr (9, [.int cd, .int (nI n), .ref qmr, .int fm, .int (nI cm), .ref qmc, .int (nI szv), .ref qmb, .int (nI btv), .int (nI dm), .ref qml])), (qmr, .inl (cJ, 1024, .inr (.inl xs)))] sz) := by
  refine met_l (cc := cMo_least) (maxL := 4) (S := Unit) (D := D) (wO := fun (u : Unit) => [(qm, .inr (9, [.int cd, .int (nI n), .ref qmr, .int fm, .int (nI cm), .ref qmc, .int (nI szv), .ref qmb, .int (nI btv), .int (nI dm), .ref qml])), (qmr, .inl (cJ, 1024, .inr (.inl xs)))]) (by decide) (Nat.le_of_ble_eq_true rfl) ?_
  intro p e s m below meth c hx hb hml hown hts hlocks hin hWd A hA hsz hP hK hD hS Q hret ls hl
  have hown : s.vm.findClass "ColumnFormsModel" = some m.cls := hown
  have hl : lv_has ls 4 [(0, .ref qm)] := hl
  have hP : va_P D vwCl [(qm, .inr (9, [.int cd, .int (nI n), .ref qmr, .int fm, .int (nI cm), .ref qmc, .int (nI szv), .ref qmb, .int (nI btv), .int (nI dm), .ref qml])), (qmr, .inl (cJ, 1024, .inr (.inl xs)))] s.heap := hP
  refine lv_aload_n hx hb dMo_least_0 rfl (lv_at hl 0 rfl) ?_
  refine va_get (D := D) (ci := 9) (v := .ref qmr) (C := "ColumnFormsModel") (T := TMo) (N := 11) hx hb hts inMo hown hK hP 0 rfl rfl 2 (by decide) (hts _ tw_591) (fun _ h9 => h9) rfl dMo_least_1 ?_
  refine lv_iconst (v := nI 0) hx hb dMo_least_4 (by decide) ?_
  refine va_lald hx hb hK hP 1 0 rfl rfl (vp_in_nI (by omega) (by omega)) dMo_least_5 ?_
  refine tp_l (show (xs (nI 0).toNatClampNeg) = (xs 0) from congrArg _ (nI_clamp (by omega))) ?_
  refine lv_lstore_n (lv' := [(1, .long (xs 0)), (0, .ref qm)]) hx hb dMo_least_6 rfl hl (by decide) rfl (fun ls hl => ?_)
  refine lv_iconst (v := nI 1) hx hb dMo_least_7 (by decide) ?_
  refine lv_istore_n (lv' := [(3, .int (nI 1)), (1, .long (xs 0)), (0, .ref qm)]) hx hb dMo_least_8 rfl hl (by decide) rfl (fun ls hl => ?_)
  have lp : ∀ (k_lp : Nat) (k : Nat) (vl : Int64), (1 ≤ k) → (k ≤ n) → (vl = rLo xs k) → (n - k < k_lp) → ∀ (H : Heap) (locs : List Loc) (ls : Array Slot), va_P D vwCl [(qm, .inr (9, [.int cd, .int (nI n), .ref qmr, .int fm, .int (nI cm), .ref qmc, .int (nI szv), .ref qmb, .int (nI btv), .int (nI dm), .ref qml])), (qmr, .inl (cJ, 1024, .inr (.inl xs)))] H → va_D A [(qm, .inr (9, [.int cd, .int (nI n), .ref qmr, .int fm, .int (nI cm), .ref qmc, .int (nI szv), .ref qmb, .int (nI btv), .int (nI dm), .ref qml])), (qmr, .inl (cJ, 1024, .inr (.inl xs)))] → va_S A s.heap H locs → lv_has ls 4 [(0, .ref qm), (1, .long vl), (3, .int (nI k))] → W p l e ({ frames := 0, cells := 0, slots := 0, locals := 0 }) s m ([.ref qm].toArray) below meth c H locs (0) (0) Q (F0 m 9 ls []) := by
    intro k_lp
    induction k_lp with
    | zero => intro k vl g0 g1 g2 hfu; exact absurd hfu (by omega)
    | succ k_lp ih_lp =>
      intro k vl g0 g1 g2 hfu H locs ls hP hD hS hl
      refine lv_iload_n hx hb dMo_least_9 rfl (lv_at hl 2 rfl) ?_
      refine lv_aload_n hx hb dMo_least_10 rfl (lv_at hl 0 rfl) ?_
      refine va_get (D := D) (ci := 9) (v := .int (nI n)) (C := "ColumnFormsModel") (T := TMo) (N := 11) hx hb hts inMo hown hK hP 0 rfl rfl 1 (by decide) (hts _ tw_590) (fun _ h9 => h9) rfl dMo_least_11 ?_
      refine lv_icmp_ge (tgt := 45) hx hb dMo_least_14 (by decide) (fun c14 => ?_) (fun c14 => ?_)
      · have c14 : n ≤ k := (nI_leI (by omega) (by omega)).mp c14
        refine lv_lload_n hx hb dMo_least_45 rfl (lv_at hl 1 rfl) ?_
        exact hret vl () _ _ _ _ _ _ ⟨by rw [g2, show k = n by omega], trivial⟩ (hP.sub [0, 1] rfl) (hD.sub [0, 1] (by decide) rfl) hS (Nat.le_of_ble_eq_true rfl) (Nat.le_of_ble_eq_true rfl) dMo_least_46
      · have c14 : ¬ n ≤ k := fun h => c14 ((nI_leI (by omega) (by omega)).mpr h)
        refine lv_aload_n hx hb dMo_least_17 rfl (lv_at hl 0 rfl) ?_
        refine va_get (D := D) (ci := 9) (v := .ref qmr) (C := "ColumnFormsModel") (T := TMo) (N := 11) hx hb hts inMo hown hK hP 0 rfl rfl 2 (by decide) (hts _ tw_591) (fun _ h9 => h9) rfl dMo_least_18 ?_
        refine lv_iload_n hx hb dMo_least_21 rfl (lv_at hl 2 rfl) ?_
        refine va_lald hx hb hK hP 1 0 rfl rfl (vp_in_nI (by omega) (by omega)) dMo_least_22 ?_
        refine tp_l (show (xs (nI k).toNatClampNeg) = (xs k) from congrArg _ (nI_clamp (by omega))) ?_
        refine lv_lload_n hx hb dMo_least_23 rfl (lv_at hl 1 rfl) ?_
        refine W.lcmp hx hb dMo_least_24 ?_
        refine lv_if_ge (tgt := 37) hx hb dMo_least_25 (by decide) (fun c25 => ?_) (fun c25 => ?_)
        · have c25 : vl ≤ (xs k) := (lg_cmp_ge _ _).mp c25
          refine lv_lload_n hx hb dMo_least_37 rfl (lv_at hl 1 rfl) ?_
          refine lv_lstore_n (lv' := [(1, .long vl), (0, .ref qm), (3, .int (nI k))]) hx hb dMo_least_38 rfl hl (by decide) rfl (fun ls hl => ?_)
          refine lv_iinc (v := nI (k + 1)) (lv' := [(3, .int (nI (k + 1))), (1, .long vl), (0, .ref qm)]) hx hb dMo_least_39 hl (k := 2) rfl (by rw [show (Int32.ofInt 1) = nI 1 from by decide]; exact nI_add _ _) (by decide) rfl (fun ls hl => ?_)
          refine lv_goto (tgt := 9) hx hb dMo_least_42 (by decide) ?_
          exact ih_lp (k + 1) vl (by omega) (by omega) (by rw [rLo_s (by omega), ← g2]; exact lMin_no c25) (by omega) _ _ _ (hP.sub [0, 1] rfl) (hD.sub [0, 1] (by decide) rfl) hS (lv_sub hl [2, 1, 0] rfl)
        · have c25 : ¬ vl ≤ (xs k) := fun h => c25 ((lg_cmp_ge _ _).mpr h)
          refine lv_aload_n hx hb dMo_least_28 rfl (lv_at hl 0 rfl) ?_
          refine va_get (D := D) (ci := 9) (v := .ref qmr) (C := "ColumnFormsModel") (T := TMo) (N := 11) hx hb hts inMo hown hK hP 0 rfl rfl 2 (by decide) (hts _ tw_591) (fun _ h9 => h9) rfl dMo_least_29 ?_
          refine lv_iload_n hx hb dMo_least_32 rfl (lv_at hl 2 rfl) ?_
          refine va_lald hx hb hK hP 1 0 rfl rfl (vp_in_nI (by omega) (by omega)) dMo_least_33 ?_
          refine tp_l (show (xs (nI k).toNatClampNeg) = (xs k) from congrArg _ (nI_clamp (by omega))) ?_
          refine lv_goto (tgt := 38) hx hb dMo_least_34 (by decide) ?_
          refine lv_lstore_n (lv' := [(1, .long (xs k)), (0, .ref qm), (3, .int (nI k))]) hx hb dMo_least_38 rfl hl (by decide) rfl (fun ls hl => ?_)
          refine lv_iinc (v := nI (k + 1)) (lv' := [(3, .int (nI (k + 1))), (1, .long (xs k)), (0, .ref qm)]) hx hb dMo_least_39 hl (k := 2) rfl (by rw [show (Int32.ofInt 1) = nI 1 from by decide]; exact nI_add _ _) (by decide) rfl (fun ls hl => ?_)
          refine lv_goto (tgt := 9) hx hb dMo_least_42 (by decide) ?_
          exact ih_lp (k + 1) (xs k) (by omega) (by omega) (by rw [rLo_s (by omega), ← g2]; exact lMin_y c25) (by omega) _ _ _ (hP.sub [0, 1] rfl) (hD.sub [0, 1] (by decide) rfl) hS (lv_sub hl [2, 1, 0] rfl)
  exact lp (n - 1 + 1) 1 (xs 0) (by omega) (by omega) (rfl) (by omega) _ _ _ (hP.sub [0, 1] rfl) (hD.sub [0, 1] (by decide) rfl) hS (lv_sub hl [2, 1, 0] rfl)

set_option maxHeartbeats 4000000 in
set_option maxRecDepth 100000 in
theorem m_great (l : Launch) (D : va_G) (cJ cB cI cF : ClassId) (qm : Nat) (cd : Int32) (n : Nat) (qmr : Nat) (fm : Int32) (cm : Nat) (qmc : Nat) (szv : Nat) (qmb : Nat) (btv : Nat) (dm : Nat) (qml : Nat) (xs : Nat → Int64) (sz : Nat) (hn0 : 0 < n) (hn : n ≤ 1024) : Met l yMo_greatest (Cond.code yMo_greatest cMo_greatest 4 (some .long) :: wsG) ({ frames := 0, cells := 0, slots := 0, locals := 0 }) (va_Pc [.ref qm] (cfPre D (cfT cJ cB cI cF) [(qm, .inr (9, [.int cd, .int (nI n), .ref qmr, .int fm, .int (nI cm), .ref qmc, .int (nI szv), .ref qmb, .int (nI btv), .int (nI dm), .ref qml])), (qmr, .inl (cJ, 1024, .inr (.inl xs)))] sz)) (va_Ql (fun (r : Int64) (u : Unit) => r = rHi xs n ∧ True) (fun u t => cfPost D ((fun (u : Unit) => [(qm, .inr (9, [.int cd, .int (nI n), .ref qmr, .int fm, .int (nI cm), .ref qmc, .int (nI szv), .ref qmb, .int (nI btv), .int (nI dm), .ref qml])), (qmr, .inl (cJ, 1024, .inr (.inl xs)))]) u) (va_A [(qm, .inr (9, [.int cd, .int (nI n), .ref qmr, .int fm, .int (nI cm), .ref qmc, .int (nI szv), .ref qmb, .int (nI btv), .int (nI dm), .ref qml])), (qmr, .inl (cJ, 1024, .inr (.inl xs)))] sz) t) (va_A [(qm, .inr (9, [.int cd, .int (nI n), .ref qmr, .int fm, .int (nI cm), .ref qmc, .int (nI szv), .ref qmb, .int (nI btv), .int (nI dm), .ref qml])), (qmr, .inl (cJ, 1024, .inr (.inl xs)))] sz)) 0 0 (va_A [(qm, .inr (9, [.int cd, .int (nI n), .ref qmr, .int fm, .int (nI cm), .ref qmc, .int (nI szv), .ref qmb, .int (nI btv), .int (nI dm), .ref qml])), (qmr, .inl (cJ, 1024, .inr (.inl xs)))] sz) := by
  refine met_l (cc := cMo_greatest) (maxL := 4) (S := Unit) (D := D) (wO := fun (u : Unit) => [(qm, .inr (9, [.int cd, .int (nI n), .ref qmr, .int fm, .int (nI cm), .ref qmc, .int (nI szv), .ref qmb, .int (nI btv), .int (nI dm), .ref qml])), (qmr, .inl (cJ, 1024, .inr (.inl xs)))]) (by decide) (Nat.le_of_ble_eq_true rfl) ?_
  intro p e s m below meth c hx hb hml hown hts hlocks hin hWd A hA hsz hP hK hD hS Q hret ls hl
  have hown : s.vm.findClass "ColumnFormsModel" = some m.cls := hown
  have hl : lv_has ls 4 [(0, .ref qm)] := hl
  have hP : va_P D vwCl [(qm, .inr (9, [.int cd, .int (nI n), .ref qmr, .int fm, .int (nI cm), .ref qmc, .int (nI szv), .ref qmb, .int (nI btv), .int (nI dm), .ref qml])), (qmr, .inl (cJ, 1024, .inr (.inl xs)))] s.heap := hP
  refine lv_aload_n hx hb dMo_greatest_0 rfl (lv_at hl 0 rfl) ?_
  refine va_get (D := D) (ci := 9) (v := .ref qmr) (C := "ColumnFormsModel") (T := TMo) (N := 11) hx hb hts inMo hown hK hP 0 rfl rfl 2 (by decide) (hts _ tw_591) (fun _ h9 => h9) rfl dMo_greatest_1 ?_
  refine lv_iconst (v := nI 0) hx hb dMo_greatest_4 (by decide) ?_
  refine va_lald hx hb hK hP 1 0 rfl rfl (vp_in_nI (by omega) (by omega)) dMo_greatest_5 ?_
  refine tp_l (show (xs (nI 0).toNatClampNeg) = (xs 0) from congrArg _ (nI_clamp (by omega))) ?_
  refine lv_lstore_n (lv' := [(1, .long (xs 0)), (0, .ref qm)]) hx hb dMo_greatest_6 rfl hl (by decide) rfl (fun ls hl => ?_)
  refine lv_iconst (v := nI 1) hx hb dMo_greatest_7 (by decide) ?_
  refine lv_istore_n (lv' := [(3, .int (nI 1)), (1, .long (xs 0)), (0, .ref qm)]) hx hb dMo_greatest_8 rfl hl (by decide) rfl (fun ls hl => ?_)
  have lp : ∀ (k_lp : Nat) (k : Nat) (vl : Int64), (1 ≤ k) → (k ≤ n) → (vl = rHi xs k) → (n - k < k_lp) → ∀ (H : Heap) (locs : List Loc) (ls : Array Slot), va_P D vwCl [(qm, .inr (9, [.int cd, .int (nI n), .ref qmr, .int fm, .int (nI cm), .ref qmc, .int (nI szv), .ref qmb, .int (nI btv), .int (nI dm), .ref qml])), (qmr, .inl (cJ, 1024, .inr (.inl xs)))] H → va_D A [(qm, .inr (9, [.int cd, .int (nI n), .ref qmr, .int fm, .int (nI cm), .ref qmc, .int (nI szv), .ref qmb, .int (nI btv), .int (nI dm), .ref qml])), (qmr, .inl (cJ, 1024, .inr (.inl xs)))] → va_S A s.heap H locs → lv_has ls 4 [(0, .ref qm), (1, .long vl), (3, .int (nI k))] → W p l e ({ frames := 0, cells := 0, slots := 0, locals := 0 }) s m ([.ref qm].toArray) below meth c H locs (0) (0) Q (F0 m 9 ls []) := by
    intro k_lp
    induction k_lp with
    | zero => intro k vl g0 g1 g2 hfu; exact absurd hfu (by omega)
    | succ k_lp ih_lp =>
      intro k vl g0 g1 g2 hfu H locs ls hP hD hS hl
      refine lv_iload_n hx hb dMo_greatest_9 rfl (lv_at hl 2 rfl) ?_
      refine lv_aload_n hx hb dMo_greatest_10 rfl (lv_at hl 0 rfl) ?_
      refine va_get (D := D) (ci := 9) (v := .int (nI n)) (C := "ColumnFormsModel") (T := TMo) (N := 11) hx hb hts inMo hown hK hP 0 rfl rfl 1 (by decide) (hts _ tw_590) (fun _ h9 => h9) rfl dMo_greatest_11 ?_
      refine lv_icmp_ge (tgt := 45) hx hb dMo_greatest_14 (by decide) (fun c14 => ?_) (fun c14 => ?_)
      · have c14 : n ≤ k := (nI_leI (by omega) (by omega)).mp c14
        refine lv_lload_n hx hb dMo_greatest_45 rfl (lv_at hl 1 rfl) ?_
        exact hret vl () _ _ _ _ _ _ ⟨by rw [g2, show k = n by omega], trivial⟩ (hP.sub [0, 1] rfl) (hD.sub [0, 1] (by decide) rfl) hS (Nat.le_of_ble_eq_true rfl) (Nat.le_of_ble_eq_true rfl) dMo_greatest_46
      · have c14 : ¬ n ≤ k := fun h => c14 ((nI_leI (by omega) (by omega)).mpr h)
        refine lv_aload_n hx hb dMo_greatest_17 rfl (lv_at hl 0 rfl) ?_
        refine va_get (D := D) (ci := 9) (v := .ref qmr) (C := "ColumnFormsModel") (T := TMo) (N := 11) hx hb hts inMo hown hK hP 0 rfl rfl 2 (by decide) (hts _ tw_591) (fun _ h9 => h9) rfl dMo_greatest_18 ?_
        refine lv_iload_n hx hb dMo_greatest_21 rfl (lv_at hl 2 rfl) ?_
        refine va_lald hx hb hK hP 1 0 rfl rfl (vp_in_nI (by omega) (by omega)) dMo_greatest_22 ?_
        refine tp_l (show (xs (nI k).toNatClampNeg) = (xs k) from congrArg _ (nI_clamp (by omega))) ?_
        refine lv_lload_n hx hb dMo_greatest_23 rfl (lv_at hl 1 rfl) ?_
        refine W.lcmp hx hb dMo_greatest_24 ?_
        refine lv_if_le (tgt := 37) hx hb dMo_greatest_25 (by decide) (fun c25 => ?_) (fun c25 => ?_)
        · have c25 : (xs k) ≤ vl := (lg_cmp_le _ _).mp c25
          refine lv_lload_n hx hb dMo_greatest_37 rfl (lv_at hl 1 rfl) ?_
          refine lv_lstore_n (lv' := [(1, .long vl), (0, .ref qm), (3, .int (nI k))]) hx hb dMo_greatest_38 rfl hl (by decide) rfl (fun ls hl => ?_)
          refine lv_iinc (v := nI (k + 1)) (lv' := [(3, .int (nI (k + 1))), (1, .long vl), (0, .ref qm)]) hx hb dMo_greatest_39 hl (k := 2) rfl (by rw [show (Int32.ofInt 1) = nI 1 from by decide]; exact nI_add _ _) (by decide) rfl (fun ls hl => ?_)
          refine lv_goto (tgt := 9) hx hb dMo_greatest_42 (by decide) ?_
          exact ih_lp (k + 1) vl (by omega) (by omega) (by rw [rHi_s (by omega), ← g2]; exact lMax_no c25) (by omega) _ _ _ (hP.sub [0, 1] rfl) (hD.sub [0, 1] (by decide) rfl) hS (lv_sub hl [2, 1, 0] rfl)
        · have c25 : ¬ (xs k) ≤ vl := fun h => c25 ((lg_cmp_le _ _).mpr h)
          refine lv_aload_n hx hb dMo_greatest_28 rfl (lv_at hl 0 rfl) ?_
          refine va_get (D := D) (ci := 9) (v := .ref qmr) (C := "ColumnFormsModel") (T := TMo) (N := 11) hx hb hts inMo hown hK hP 0 rfl rfl 2 (by decide) (hts _ tw_591) (fun _ h9 => h9) rfl dMo_greatest_29 ?_
          refine lv_iload_n hx hb dMo_greatest_32 rfl (lv_at hl 2 rfl) ?_
          refine va_lald hx hb hK hP 1 0 rfl rfl (vp_in_nI (by omega) (by omega)) dMo_greatest_33 ?_
          refine tp_l (show (xs (nI k).toNatClampNeg) = (xs k) from congrArg _ (nI_clamp (by omega))) ?_
          refine lv_goto (tgt := 38) hx hb dMo_greatest_34 (by decide) ?_
          refine lv_lstore_n (lv' := [(1, .long (xs k)), (0, .ref qm), (3, .int (nI k))]) hx hb dMo_greatest_38 rfl hl (by decide) rfl (fun ls hl => ?_)
          refine lv_iinc (v := nI (k + 1)) (lv' := [(3, .int (nI (k + 1))), (1, .long (xs k)), (0, .ref qm)]) hx hb dMo_greatest_39 hl (k := 2) rfl (by rw [show (Int32.ofInt 1) = nI 1 from by decide]; exact nI_add _ _) (by decide) rfl (fun ls hl => ?_)
          refine lv_goto (tgt := 9) hx hb dMo_greatest_42 (by decide) ?_
          exact ih_lp (k + 1) (xs k) (by omega) (by omega) (by rw [rHi_s (by omega), ← g2]; exact lMax_y c25) (by omega) _ _ _ (hP.sub [0, 1] rfl) (hD.sub [0, 1] (by decide) rfl) hS (lv_sub hl [2, 1, 0] rfl)
  exact lp (n - 1 + 1) 1 (xs 0) (by omega) (by omega) (rfl) (by omega) _ _ _ (hP.sub [0, 1] rfl) (hD.sub [0, 1] (by decide) rfl) hS (lv_sub hl [2, 1, 0] rfl)

set_option maxHeartbeats 4000000 in
set_option maxRecDepth 100000 in
theorem m_step (l : Launch) (D : va_G) (cJ cB cI cF : ClassId) (qm : Nat) (cd : Int32) (n : Nat) (qmr : Nat) (fm : Int32) (cm : Nat) (qmc : Nat) (szv : Nat) (qmb : Nat) (btv : Nat) (dm : Nat) (qml : Nat) (xs : Nat → Int64) (k : Nat) (sz : Nat) (hk1 : 1 ≤ k) (hk : k < 1024) : Met l yMo_step (Cond.code yMo_step cMo_step 2 (some .long) :: wsG) ({ frames := 0, cells := 0, slots := 0, locals := 0 }) (va_Pc [.ref qm, .int (nI k)] (cfPre D (cfT cJ cB cI cF) [(qm, .inr (9, [.int cd, .int (nI n), .ref qmr, .int fm, .int (nI cm), .ref qmc, .int (nI szv), .ref qmb, .int (nI btv), .int (nI dm), .ref qml])), (qmr, .inl (cJ, 1024, .inr (.inl xs)))] sz)) (va_Ql (fun (r : Int64) (u : Unit) => r = xs k - xs (k - 1) ∧ True) (fun u t => cfPost D ((fun (u : Unit) => [(qm, .inr (9, [.int cd, .int (nI n), .ref qmr, .int fm, .int (nI cm), .ref qmc, .int (nI szv), .ref qmb, .int (nI btv), .int (nI dm), .ref qml])), (qmr, .inl (cJ, 1024, .inr (.inl xs)))]) u) (va_A [(qm, .inr (9, [.int cd, .int (nI n), .ref qmr, .int fm, .int (nI cm), .ref qmc, .int (nI szv), .ref qmb, .int (nI btv), .int (nI dm), .ref qml])), (qmr, .inl (cJ, 1024, .inr (.inl xs)))] sz) t) (va_A [(qm, .inr (9, [.int cd, .int (nI n), .ref qmr, .int fm, .int (nI cm), .ref qmc, .int (nI szv), .ref qmb, .int (nI btv), .int (nI dm), .ref qml])), (qmr, .inl (cJ, 1024, .inr (.inl xs)))] sz)) 0 0 (va_A [(qm, .inr (9, [.int cd, .int (nI n), .ref qmr, .int fm, .int (nI cm), .ref qmc, .int (nI szv), .ref qmb, .int (nI btv), .int (nI dm), .ref qml])), (qmr, .inl (cJ, 1024, .inr (.inl xs)))] sz) := by
  refine met_l (cc := cMo_step) (maxL := 2) (S := Unit) (D := D) (wO := fun (u : Unit) => [(qm, .inr (9, [.int cd, .int (nI n), .ref qmr, .int fm, .int (nI cm), .ref qmc, .int (nI szv), .ref qmb, .int (nI btv), .int (nI dm), .ref qml])), (qmr, .inl (cJ, 1024, .inr (.inl xs)))]) (by decide) (Nat.le_of_ble_eq_true rfl) ?_
  intro p e s m below meth c hx hb hml hown hts hlocks hin hWd A hA hsz hP hK hD hS Q hret ls hl
  have hown : s.vm.findClass "ColumnFormsModel" = some m.cls := hown
  have hl : lv_has ls 2 [(0, .ref qm), (1, .int (nI k))] := hl
  have hP : va_P D vwCl [(qm, .inr (9, [.int cd, .int (nI n), .ref qmr, .int fm, .int (nI cm), .ref qmc, .int (nI szv), .ref qmb, .int (nI btv), .int (nI dm), .ref qml])), (qmr, .inl (cJ, 1024, .inr (.inl xs)))] s.heap := hP
  refine lv_aload_n hx hb dMo_step_0 rfl (lv_at hl 0 rfl) ?_
  refine va_get (D := D) (ci := 9) (v := .ref qmr) (C := "ColumnFormsModel") (T := TMo) (N := 11) hx hb hts inMo hown hK hP 0 rfl rfl 2 (by decide) (hts _ tw_591) (fun _ h9 => h9) rfl dMo_step_1 ?_
  refine lv_iload_n hx hb dMo_step_4 rfl (lv_at hl 1 rfl) ?_
  refine va_lald hx hb hK hP 1 0 rfl rfl (vp_in_nI (by omega) (by omega)) dMo_step_5 ?_
  refine tp_l (show (xs (nI k).toNatClampNeg) = (xs k) from congrArg _ (nI_clamp (by omega))) ?_
  refine lv_aload_n hx hb dMo_step_6 rfl (lv_at hl 0 rfl) ?_
  refine va_get (D := D) (ci := 9) (v := .ref qmr) (C := "ColumnFormsModel") (T := TMo) (N := 11) hx hb hts inMo hown hK hP 0 rfl rfl 2 (by decide) (hts _ tw_591) (fun _ h9 => h9) rfl dMo_step_7 ?_
  refine lv_iload_n hx hb dMo_step_10 rfl (lv_at hl 1 rfl) ?_
  refine lv_iconst (v := nI 1) hx hb dMo_step_11 (by decide) ?_
  refine lv_isub hx hb dMo_step_12 ?_
  refine tp_i (show ((nI k) - (nI 1)) = (nI (k - 1)) from pk_sub (by omega)) ?_
  refine va_lald hx hb hK hP 1 0 rfl rfl (vp_in_nI (by omega) (by omega)) dMo_step_13 ?_
  refine tp_l (show (xs (nI (k - 1)).toNatClampNeg) = (xs (k - 1)) from congrArg _ (nI_clamp (by omega))) ?_
  refine lv_lsub hx hb dMo_step_14 ?_
  exact hret ((xs k) - (xs (k - 1))) () _ _ _ _ _ _ ⟨rfl, trivial⟩ (hP.sub [0, 1] rfl) (hD.sub [0, 1] (by decide) rfl) hS (Nat.le_of_ble_eq_true rfl) (Nat.le_of_ble_eq_true rfl) dMo_step_15

set_option maxHeartbeats 4000000 in
set_option maxRecDepth 100000 in
theorem m_lstep (l : Launch) (D : va_G) (cJ cB cI cF : ClassId) (qm : Nat) (cd : Int32) (n : Nat) (qmr : Nat) (fm : Int32) (cm : Nat) (qmc : Nat) (szv : Nat) (qmb : Nat) (btv : Nat) (dm : Nat) (qml : Nat) (xs : Nat → Int64) (sz : Nat) (hn0 : 0 < n) (hn : n ≤ 1024) : Met l yMo_leastStep (Cond.code yMo_leastStep cMo_leastStep 4 (some .long) :: wsG) ({ frames := 1, cells := 0, slots := 0, locals := 21 }) (va_Pc [.ref qm] (cfPre D (cfT cJ cB cI cF) [(qm, .inr (9, [.int cd, .int (nI n), .ref qmr, .int fm, .int (nI cm), .ref qmc, .int (nI szv), .ref qmb, .int (nI btv), .int (nI dm), .ref qml])), (qmr, .inl (cJ, 1024, .inr (.inl xs)))] sz)) (va_Ql (fun (r : Int64) (u : Unit) => r = sLo xs n ∧ True) (fun u t => cfPost D ((fun (u : Unit) => [(qm, .inr (9, [.int cd, .int (nI n), .ref qmr, .int fm, .int (nI cm), .ref qmc, .int (nI szv), .ref qmb, .int (nI btv), .int (nI dm), .ref qml])), (qmr, .inl (cJ, 1024, .inr (.inl xs)))]) u) (va_A [(qm, .inr (9, [.int cd, .int (nI n), .ref qmr, .int fm, .int (nI cm), .ref qmc, .int (nI szv), .ref qmb, .int (nI btv), .int (nI dm), .ref qml])), (qmr, .inl (cJ, 1024, .inr (.inl xs)))] sz) t) (va_A [(qm, .inr (9, [.int cd, .int (nI n), .ref qmr, .int fm, .int (nI cm), .ref qmc, .int (nI szv), .ref qmb, .int (nI btv), .int (nI dm), .ref qml])), (qmr, .inl (cJ, 1024, .inr (.inl xs)))] sz)) 0 0 (va_A [(qm, .inr (9, [.int cd, .int (nI n), .ref qmr, .int fm, .int (nI cm), .ref qmc, .int (nI szv), .ref qmb, .int (nI btv), .int (nI dm), .ref qml])), (qmr, .inl (cJ, 1024, .inr (.inl xs)))] sz) := by
  refine met_l (cc := cMo_leastStep) (maxL := 4) (S := Unit) (D := D) (wO := fun (u : Unit) => [(qm, .inr (9, [.int cd, .int (nI n), .ref qmr, .int fm, .int (nI cm), .ref qmc, .int (nI szv), .ref qmb, .int (nI btv), .int (nI dm), .ref qml])), (qmr, .inl (cJ, 1024, .inr (.inl xs)))]) (by decide) (Nat.le_of_ble_eq_true rfl) ?_
  intro p e s m below meth c hx hb hml hown hts hlocks hin hWd A hA hsz hP hK hD hS Q hret ls hl
  have hown : s.vm.findClass "ColumnFormsModel" = some m.cls := hown
  have hl : lv_has ls 4 [(0, .ref qm)] := hl
  have hP : va_P D vwCl [(qm, .inr (9, [.int cd, .int (nI n), .ref qmr, .int fm, .int (nI cm), .ref qmc, .int (nI szv), .ref qmb, .int (nI btv), .int (nI dm), .ref qml])), (qmr, .inl (cJ, 1024, .inr (.inl xs)))] s.heap := hP
  refine lv_aload_n hx hb dMo_leastStep_0 rfl (lv_at hl 0 rfl) ?_
  refine va_get (D := D) (ci := 9) (v := .int (nI n)) (C := "ColumnFormsModel") (T := TMo) (N := 11) hx hb hts inMo hown hK hP 0 rfl rfl 1 (by decide) (hts _ tw_590) (fun _ h9 => h9) rfl dMo_leastStep_1 ?_
  refine lv_iconst (v := nI 1) hx hb dMo_leastStep_4 (by decide) ?_
  refine lv_icmp_le (tgt := 16) hx hb dMo_leastStep_5 (by decide) (fun c5 => ?_) (fun c5 => ?_)
  · have c5 : n ≤ 1 := (nI_leI (by omega) (by omega)).mp c5
    refine lv_lconst (v := 0) hx hb dMo_leastStep_16 (by decide) ?_
    refine lv_lstore_n (lv' := [(1, .long 0), (0, .ref qm)]) hx hb dMo_leastStep_17 rfl hl (by decide) rfl (fun ls hl => ?_)
    refine lv_iconst (v := nI 2) hx hb dMo_leastStep_18 (by decide) ?_
    refine lv_istore_n (lv' := [(3, .int (nI 2)), (1, .long 0), (0, .ref qm)]) hx hb dMo_leastStep_19 rfl hl (by decide) rfl (fun ls hl => ?_)
    have lp : ∀ (k_lp : Nat) (k : Nat) (vl : Int64), (2 ≤ k) → (k ≤ 1025) → (vl = sLo xs (min k n)) → (n - k < k_lp) → ∀ (H : Heap) (locs : List Loc) (ls : Array Slot), va_P D vwCl [(qm, .inr (9, [.int cd, .int (nI n), .ref qmr, .int fm, .int (nI cm), .ref qmc, .int (nI szv), .ref qmb, .int (nI btv), .int (nI dm), .ref qml])), (qmr, .inl (cJ, 1024, .inr (.inl xs)))] H → va_D A [(qm, .inr (9, [.int cd, .int (nI n), .ref qmr, .int fm, .int (nI cm), .ref qmc, .int (nI szv), .ref qmb, .int (nI btv), .int (nI dm), .ref qml])), (qmr, .inl (cJ, 1024, .inr (.inl xs)))] → va_S A s.heap H locs → lv_has ls 4 [(0, .ref qm), (1, .long vl), (3, .int (nI k))] → W p l e ({ frames := 1, cells := 0, slots := 0, locals := 21 }) s m ([.ref qm].toArray) below meth c H locs (0) (0) Q (F0 m 20 ls []) := by
      intro k_lp
      induction k_lp with
      | zero => intro k vl g0 g1 g2 hfu; exact absurd hfu (by omega)
      | succ k_lp ih_lp =>
        intro k vl g0 g1 g2 hfu H locs ls hP hD hS hl
        refine lv_iload_n hx hb dMo_leastStep_20 rfl (lv_at hl 2 rfl) ?_
        refine lv_aload_n hx hb dMo_leastStep_21 rfl (lv_at hl 0 rfl) ?_
        refine va_get (D := D) (ci := 9) (v := .int (nI n)) (C := "ColumnFormsModel") (T := TMo) (N := 11) hx hb hts inMo hown hK hP 0 rfl rfl 1 (by decide) (hts _ tw_590) (fun _ h9 => h9) rfl dMo_leastStep_22 ?_
        refine lv_icmp_ge (tgt := 54) hx hb dMo_leastStep_25 (by decide) (fun c25 => ?_) (fun c25 => ?_)
        · have c25 : n ≤ k := (nI_leI (by omega) (by omega)).mp c25
          refine lv_lload_n hx hb dMo_leastStep_54 rfl (lv_at hl 1 rfl) ?_
          exact hret vl () _ _ _ _ _ _ ⟨by rw [g2, show min k n = n by omega], trivial⟩ (hP.sub [0, 1] rfl) (hD.sub [0, 1] (by decide) rfl) hS (Nat.le_of_ble_eq_true rfl) (Nat.le_of_ble_eq_true rfl) dMo_leastStep_55
        · have c25 : ¬ n ≤ k := fun h => c25 ((nI_leI (by omega) (by omega)).mpr h)
          refine lv_aload_n hx hb dMo_leastStep_28 rfl (lv_at hl 0 rfl) ?_
          refine lv_iload_n hx hb dMo_leastStep_29 rfl (lv_at hl 2 rfl) ?_
          refine kc_l (wc := [(qm, .inr (9, [.int cd, .int (nI n), .ref qmr, .int fm, .int (nI cm), .ref qmc, .int (nI szv), .ref qmb, .int (nI btv), .int (nI dm), .ref qml])), (qmr, .inl (cJ, 1024, .inr (.inl xs)))]) (wr := []) hP hD hS hA [0, 1] [] rfl rfl (by decide) (by decide) (by decide) (fun hPc hDc => va_runV (As := [.int (nI k)]) (rest := []) ⟨hx, hb, hml, hown, hts⟩ (m_step l D cJ cB cI cF qm cd n qmr fm cm qmc szv qmb btv dm qml xs k _ (by omega) (by omega)) (cwV 1 hts (wsG_k tw_677 (wsG_k tw_679 (wsG_k tp_w18 (wsG_k tw_10 (wsG_c tw_680))))) rfl rfl rfl (by decide +kernel) ⟨Nat.le_of_ble_eq_true rfl, Nat.le_of_ble_eq_true rfl⟩) ⟨cf_blind, va_recv hK hPc (ci := 9) (q0 := 0) rfl rfl, cf_pre hPc hK hDc hWd⟩ rfl rfl hl.1 rfl (lv_room (Nat.le_of_ble_eq_true rfl)) dMo_leastStep_30 ⟨Nat.le_of_ble_eq_true rfl, Nat.le_of_ble_eq_true rfl⟩) (fun r u H locs hw hP hD hS => ?_)
          obtain ⟨rfl, -⟩ := hw
          have hP : va_P D vwCl [(qm, .inr (9, [.int cd, .int (nI n), .ref qmr, .int fm, .int (nI cm), .ref qmc, .int (nI szv), .ref qmb, .int (nI btv), .int (nI dm), .ref qml])), (qmr, .inl (cJ, 1024, .inr (.inl xs)))] H := hP
          have hD : va_D A [(qm, .inr (9, [.int cd, .int (nI n), .ref qmr, .int fm, .int (nI cm), .ref qmc, .int (nI szv), .ref qmb, .int (nI btv), .int (nI dm), .ref qml])), (qmr, .inl (cJ, 1024, .inr (.inl xs)))] := hD
          refine lv_lload_n hx hb dMo_leastStep_33 rfl (lv_at hl 1 rfl) ?_
          refine W.lcmp hx hb dMo_leastStep_34 ?_
          refine lv_if_ge (tgt := 46) hx hb dMo_leastStep_35 (by decide) (fun c35 => ?_) (fun c35 => ?_)
          · have c35 : vl ≤ (xs k - xs (k - 1)) := (lg_cmp_ge _ _).mp c35
            refine lv_lload_n hx hb dMo_leastStep_46 rfl (lv_at hl 1 rfl) ?_
            refine lv_lstore_n (lv' := [(1, .long vl), (0, .ref qm), (3, .int (nI k))]) hx hb dMo_leastStep_47 rfl hl (by decide) rfl (fun ls hl => ?_)
            refine lv_iinc (v := nI (k + 1)) (lv' := [(3, .int (nI (k + 1))), (1, .long vl), (0, .ref qm)]) hx hb dMo_leastStep_48 hl (k := 2) rfl (by rw [show (Int32.ofInt 1) = nI 1 from by decide]; exact nI_add _ _) (by decide) rfl (fun ls hl => ?_)
            refine lv_goto (tgt := 20) hx hb dMo_leastStep_51 (by decide) ?_
            exact ih_lp (k + 1) vl (by omega) (by omega) (by rw [show min (k + 1) n = k + 1 by omega, sLo_s (by omega)]; rw [show min k n = k by omega] at g2; rw [← g2]; exact lMin_no c35) (by omega) _ _ _ (hP.sub [0, 1] rfl) (hD.sub [0, 1] (by decide) rfl) hS (lv_sub hl [2, 1, 0] rfl)
          · have c35 : ¬ vl ≤ (xs k - xs (k - 1)) := fun h => c35 ((lg_cmp_ge _ _).mpr h)
            refine lv_aload_n hx hb dMo_leastStep_38 rfl (lv_at hl 0 rfl) ?_
            refine lv_iload_n hx hb dMo_leastStep_39 rfl (lv_at hl 2 rfl) ?_
            refine kc_l (wc := [(qm, .inr (9, [.int cd, .int (nI n), .ref qmr, .int fm, .int (nI cm), .ref qmc, .int (nI szv), .ref qmb, .int (nI btv), .int (nI dm), .ref qml])), (qmr, .inl (cJ, 1024, .inr (.inl xs)))]) (wr := []) hP hD hS hA [0, 1] [] rfl rfl (by decide) (by decide) (by decide) (fun hPc hDc => va_runV (As := [.int (nI k)]) (rest := []) ⟨hx, hb, hml, hown, hts⟩ (m_step l D cJ cB cI cF qm cd n qmr fm cm qmc szv qmb btv dm qml xs k _ (by omega) (by omega)) (cwV 1 hts (wsG_k tw_677 (wsG_k tw_679 (wsG_k tp_w18 (wsG_k tw_10 (wsG_c tw_680))))) rfl rfl rfl (by decide +kernel) ⟨Nat.le_of_ble_eq_true rfl, Nat.le_of_ble_eq_true rfl⟩) ⟨cf_blind, va_recv hK hPc (ci := 9) (q0 := 0) rfl rfl, cf_pre hPc hK hDc hWd⟩ rfl rfl hl.1 rfl (lv_room (Nat.le_of_ble_eq_true rfl)) dMo_leastStep_40 ⟨Nat.le_of_ble_eq_true rfl, Nat.le_of_ble_eq_true rfl⟩) (fun r u H locs hw hP hD hS => ?_)
            obtain ⟨rfl, -⟩ := hw
            have hP : va_P D vwCl [(qm, .inr (9, [.int cd, .int (nI n), .ref qmr, .int fm, .int (nI cm), .ref qmc, .int (nI szv), .ref qmb, .int (nI btv), .int (nI dm), .ref qml])), (qmr, .inl (cJ, 1024, .inr (.inl xs)))] H := hP
            have hD : va_D A [(qm, .inr (9, [.int cd, .int (nI n), .ref qmr, .int fm, .int (nI cm), .ref qmc, .int (nI szv), .ref qmb, .int (nI btv), .int (nI dm), .ref qml])), (qmr, .inl (cJ, 1024, .inr (.inl xs)))] := hD
            refine lv_goto (tgt := 47) hx hb dMo_leastStep_43 (by decide) ?_
            refine lv_lstore_n (lv' := [(1, .long (xs k - xs (k - 1))), (0, .ref qm), (3, .int (nI k))]) hx hb dMo_leastStep_47 rfl hl (by decide) rfl (fun ls hl => ?_)
            refine lv_iinc (v := nI (k + 1)) (lv' := [(3, .int (nI (k + 1))), (1, .long (xs k - xs (k - 1))), (0, .ref qm)]) hx hb dMo_leastStep_48 hl (k := 2) rfl (by rw [show (Int32.ofInt 1) = nI 1 from by decide]; exact nI_add _ _) (by decide) rfl (fun ls hl => ?_)
            refine lv_goto (tgt := 20) hx hb dMo_leastStep_51 (by decide) ?_
            exact ih_lp (k + 1) (xs k - xs (k - 1)) (by omega) (by omega) (by rw [show min (k + 1) n = k + 1 by omega, sLo_s (by omega)]; rw [show min k n = k by omega] at g2; rw [← g2]; exact lMin_y c35) (by omega) _ _ _ (hP.sub [0, 1] rfl) (hD.sub [0, 1] (by decide) rfl) hS (lv_sub hl [2, 1, 0] rfl)
    exact lp (n - 2 + 1) 2 0 (by omega) (by omega) (by rw [show min 2 n = 1 by omega]; rfl) (by omega) _ _ _ (hP.sub [0, 1] rfl) (hD.sub [0, 1] (by decide) rfl) hS (lv_sub hl [2, 1, 0] rfl)
  · have c5 : ¬ n ≤ 1 := fun h => c5 ((nI_leI (by omega) (by omega)).mpr h)
    refine lv_aload_n hx hb dMo_leastStep_8 rfl (lv_at hl 0 rfl) ?_
    refine lv_iconst (v := nI 1) hx hb dMo_leastStep_9 (by decide) ?_
    refine kc_l (wc := [(qm, .inr (9, [.int cd, .int (nI n), .ref qmr, .int fm, .int (nI cm), .ref qmc, .int (nI szv), .ref qmb, .int (nI btv), .int (nI dm), .ref qml])), (qmr, .inl (cJ, 1024, .inr (.inl xs)))]) (wr := []) hP hD hS hA [0, 1] [] rfl rfl (by decide) (by decide) (by decide) (fun hPc hDc => va_runV (As := [.int (nI 1)]) (rest := []) ⟨hx, hb, hml, hown, hts⟩ (m_step l D cJ cB cI cF qm cd n qmr fm cm qmc szv qmb btv dm qml xs 1 _ (by omega) (by omega)) (cwV 1 hts (wsG_k tw_677 (wsG_k tw_679 (wsG_k tp_w18 (wsG_k tw_10 (wsG_c tw_680))))) rfl rfl rfl (by decide +kernel) ⟨Nat.le_of_ble_eq_true rfl, Nat.le_of_ble_eq_true rfl⟩) ⟨cf_blind, va_recv hK hPc (ci := 9) (q0 := 0) rfl rfl, cf_pre hPc hK hDc hWd⟩ rfl rfl hl.1 rfl (lv_room (Nat.le_of_ble_eq_true rfl)) dMo_leastStep_10 ⟨Nat.le_of_ble_eq_true rfl, Nat.le_of_ble_eq_true rfl⟩) (fun r u H locs hw hP hD hS => ?_)
    obtain ⟨rfl, -⟩ := hw
    have hP : va_P D vwCl [(qm, .inr (9, [.int cd, .int (nI n), .ref qmr, .int fm, .int (nI cm), .ref qmc, .int (nI szv), .ref qmb, .int (nI btv), .int (nI dm), .ref qml])), (qmr, .inl (cJ, 1024, .inr (.inl xs)))] H := hP
    have hD : va_D A [(qm, .inr (9, [.int cd, .int (nI n), .ref qmr, .int fm, .int (nI cm), .ref qmc, .int (nI szv), .ref qmb, .int (nI btv), .int (nI dm), .ref qml])), (qmr, .inl (cJ, 1024, .inr (.inl xs)))] := hD
    refine lv_goto (tgt := 17) hx hb dMo_leastStep_13 (by decide) ?_
    refine lv_lstore_n (lv' := [(1, .long (xs 1 - xs (1 - 1))), (0, .ref qm)]) hx hb dMo_leastStep_17 rfl hl (by decide) rfl (fun ls hl => ?_)
    refine lv_iconst (v := nI 2) hx hb dMo_leastStep_18 (by decide) ?_
    refine lv_istore_n (lv' := [(3, .int (nI 2)), (1, .long (xs 1 - xs (1 - 1))), (0, .ref qm)]) hx hb dMo_leastStep_19 rfl hl (by decide) rfl (fun ls hl => ?_)
    have lp : ∀ (k_lp : Nat) (k : Nat) (vl : Int64), (2 ≤ k) → (k ≤ 1025) → (vl = sLo xs (min k n)) → (n - k < k_lp) → ∀ (H : Heap) (locs : List Loc) (ls : Array Slot), va_P D vwCl [(qm, .inr (9, [.int cd, .int (nI n), .ref qmr, .int fm, .int (nI cm), .ref qmc, .int (nI szv), .ref qmb, .int (nI btv), .int (nI dm), .ref qml])), (qmr, .inl (cJ, 1024, .inr (.inl xs)))] H → va_D A [(qm, .inr (9, [.int cd, .int (nI n), .ref qmr, .int fm, .int (nI cm), .ref qmc, .int (nI szv), .ref qmb, .int (nI btv), .int (nI dm), .ref qml])), (qmr, .inl (cJ, 1024, .inr (.inl xs)))] → va_S A s.heap H locs → lv_has ls 4 [(0, .ref qm), (1, .long vl), (3, .int (nI k))] → W p l e ({ frames := 1, cells := 0, slots := 0, locals := 21 }) s m ([.ref qm].toArray) below meth c H locs (0) (0) Q (F0 m 20 ls []) := by
      intro k_lp
      induction k_lp with
      | zero => intro k vl g0 g1 g2 hfu; exact absurd hfu (by omega)
      | succ k_lp ih_lp =>
        intro k vl g0 g1 g2 hfu H locs ls hP hD hS hl
        refine lv_iload_n hx hb dMo_leastStep_20 rfl (lv_at hl 2 rfl) ?_
        refine lv_aload_n hx hb dMo_leastStep_21 rfl (lv_at hl 0 rfl) ?_
        refine va_get (D := D) (ci := 9) (v := .int (nI n)) (C := "ColumnFormsModel") (T := TMo) (N := 11) hx hb hts inMo hown hK hP 0 rfl rfl 1 (by decide) (hts _ tw_590) (fun _ h9 => h9) rfl dMo_leastStep_22 ?_
        refine lv_icmp_ge (tgt := 54) hx hb dMo_leastStep_25 (by decide) (fun c25 => ?_) (fun c25 => ?_)
        · have c25 : n ≤ k := (nI_leI (by omega) (by omega)).mp c25
          refine lv_lload_n hx hb dMo_leastStep_54 rfl (lv_at hl 1 rfl) ?_
          exact hret vl () _ _ _ _ _ _ ⟨by rw [g2, show min k n = n by omega], trivial⟩ (hP.sub [0, 1] rfl) (hD.sub [0, 1] (by decide) rfl) hS (Nat.le_of_ble_eq_true rfl) (Nat.le_of_ble_eq_true rfl) dMo_leastStep_55
        · have c25 : ¬ n ≤ k := fun h => c25 ((nI_leI (by omega) (by omega)).mpr h)
          refine lv_aload_n hx hb dMo_leastStep_28 rfl (lv_at hl 0 rfl) ?_
          refine lv_iload_n hx hb dMo_leastStep_29 rfl (lv_at hl 2 rfl) ?_
          refine kc_l (wc := [(qm, .inr (9, [.int cd, .int (nI n), .ref qmr, .int fm, .int (nI cm), .ref qmc, .int (nI szv), .ref qmb, .int (nI btv), .int (nI dm), .ref qml])), (qmr, .inl (cJ, 1024, .inr (.inl xs)))]) (wr := []) hP hD hS hA [0, 1] [] rfl rfl (by decide) (by decide) (by decide) (fun hPc hDc => va_runV (As := [.int (nI k)]) (rest := []) ⟨hx, hb, hml, hown, hts⟩ (m_step l D cJ cB cI cF qm cd n qmr fm cm qmc szv qmb btv dm qml xs k _ (by omega) (by omega)) (cwV 1 hts (wsG_k tw_677 (wsG_k tw_679 (wsG_k tp_w18 (wsG_k tw_10 (wsG_c tw_680))))) rfl rfl rfl (by decide +kernel) ⟨Nat.le_of_ble_eq_true rfl, Nat.le_of_ble_eq_true rfl⟩) ⟨cf_blind, va_recv hK hPc (ci := 9) (q0 := 0) rfl rfl, cf_pre hPc hK hDc hWd⟩ rfl rfl hl.1 rfl (lv_room (Nat.le_of_ble_eq_true rfl)) dMo_leastStep_30 ⟨Nat.le_of_ble_eq_true rfl, Nat.le_of_ble_eq_true rfl⟩) (fun r u H locs hw hP hD hS => ?_)
          obtain ⟨rfl, -⟩ := hw
          have hP : va_P D vwCl [(qm, .inr (9, [.int cd, .int (nI n), .ref qmr, .int fm, .int (nI cm), .ref qmc, .int (nI szv), .ref qmb, .int (nI btv), .int (nI dm), .ref qml])), (qmr, .inl (cJ, 1024, .inr (.inl xs)))] H := hP
          have hD : va_D A [(qm, .inr (9, [.int cd, .int (nI n), .ref qmr, .int fm, .int (nI cm), .ref qmc, .int (nI szv), .ref qmb, .int (nI btv), .int (nI dm), .ref qml])), (qmr, .inl (cJ, 1024, .inr (.inl xs)))] := hD
          refine lv_lload_n hx hb dMo_leastStep_33 rfl (lv_at hl 1 rfl) ?_
          refine W.lcmp hx hb dMo_leastStep_34 ?_
          refine lv_if_ge (tgt := 46) hx hb dMo_leastStep_35 (by decide) (fun c35 => ?_) (fun c35 => ?_)
          · have c35 : vl ≤ (xs k - xs (k - 1)) := (lg_cmp_ge _ _).mp c35
            refine lv_lload_n hx hb dMo_leastStep_46 rfl (lv_at hl 1 rfl) ?_
            refine lv_lstore_n (lv' := [(1, .long vl), (0, .ref qm), (3, .int (nI k))]) hx hb dMo_leastStep_47 rfl hl (by decide) rfl (fun ls hl => ?_)
            refine lv_iinc (v := nI (k + 1)) (lv' := [(3, .int (nI (k + 1))), (1, .long vl), (0, .ref qm)]) hx hb dMo_leastStep_48 hl (k := 2) rfl (by rw [show (Int32.ofInt 1) = nI 1 from by decide]; exact nI_add _ _) (by decide) rfl (fun ls hl => ?_)
            refine lv_goto (tgt := 20) hx hb dMo_leastStep_51 (by decide) ?_
            exact ih_lp (k + 1) vl (by omega) (by omega) (by rw [show min (k + 1) n = k + 1 by omega, sLo_s (by omega)]; rw [show min k n = k by omega] at g2; rw [← g2]; exact lMin_no c35) (by omega) _ _ _ (hP.sub [0, 1] rfl) (hD.sub [0, 1] (by decide) rfl) hS (lv_sub hl [2, 1, 0] rfl)
          · have c35 : ¬ vl ≤ (xs k - xs (k - 1)) := fun h => c35 ((lg_cmp_ge _ _).mpr h)
            refine lv_aload_n hx hb dMo_leastStep_38 rfl (lv_at hl 0 rfl) ?_
            refine lv_iload_n hx hb dMo_leastStep_39 rfl (lv_at hl 2 rfl) ?_
            refine kc_l (wc := [(qm, .inr (9, [.int cd, .int (nI n), .ref qmr, .int fm, .int (nI cm), .ref qmc, .int (nI szv), .ref qmb, .int (nI btv), .int (nI dm), .ref qml])), (qmr, .inl (cJ, 1024, .inr (.inl xs)))]) (wr := []) hP hD hS hA [0, 1] [] rfl rfl (by decide) (by decide) (by decide) (fun hPc hDc => va_runV (As := [.int (nI k)]) (rest := []) ⟨hx, hb, hml, hown, hts⟩ (m_step l D cJ cB cI cF qm cd n qmr fm cm qmc szv qmb btv dm qml xs k _ (by omega) (by omega)) (cwV 1 hts (wsG_k tw_677 (wsG_k tw_679 (wsG_k tp_w18 (wsG_k tw_10 (wsG_c tw_680))))) rfl rfl rfl (by decide +kernel) ⟨Nat.le_of_ble_eq_true rfl, Nat.le_of_ble_eq_true rfl⟩) ⟨cf_blind, va_recv hK hPc (ci := 9) (q0 := 0) rfl rfl, cf_pre hPc hK hDc hWd⟩ rfl rfl hl.1 rfl (lv_room (Nat.le_of_ble_eq_true rfl)) dMo_leastStep_40 ⟨Nat.le_of_ble_eq_true rfl, Nat.le_of_ble_eq_true rfl⟩) (fun r u H locs hw hP hD hS => ?_)
            obtain ⟨rfl, -⟩ := hw
            have hP : va_P D vwCl [(qm, .inr (9, [.int cd, .int (nI n), .ref qmr, .int fm, .int (nI cm), .ref qmc, .int (nI szv), .ref qmb, .int (nI btv), .int (nI dm), .ref qml])), (qmr, .inl (cJ, 1024, .inr (.inl xs)))] H := hP
            have hD : va_D A [(qm, .inr (9, [.int cd, .int (nI n), .ref qmr, .int fm, .int (nI cm), .ref qmc, .int (nI szv), .ref qmb, .int (nI btv), .int (nI dm), .ref qml])), (qmr, .inl (cJ, 1024, .inr (.inl xs)))] := hD
            refine lv_goto (tgt := 47) hx hb dMo_leastStep_43 (by decide) ?_
            refine lv_lstore_n (lv' := [(1, .long (xs k - xs (k - 1))), (0, .ref qm), (3, .int (nI k))]) hx hb dMo_leastStep_47 rfl hl (by decide) rfl (fun ls hl => ?_)
            refine lv_iinc (v := nI (k + 1)) (lv' := [(3, .int (nI (k + 1))), (1, .long (xs k - xs (k - 1))), (0, .ref qm)]) hx hb dMo_leastStep_48 hl (k := 2) rfl (by rw [show (Int32.ofInt 1) = nI 1 from by decide]; exact nI_add _ _) (by decide) rfl (fun ls hl => ?_)
            refine lv_goto (tgt := 20) hx hb dMo_leastStep_51 (by decide) ?_
            exact ih_lp (k + 1) (xs k - xs (k - 1)) (by omega) (by omega) (by rw [show min (k + 1) n = k + 1 by omega, sLo_s (by omega)]; rw [show min k n = k by omega] at g2; rw [← g2]; exact lMin_y c35) (by omega) _ _ _ (hP.sub [0, 1] rfl) (hD.sub [0, 1] (by decide) rfl) hS (lv_sub hl [2, 1, 0] rfl)
    exact lp (n - 2 + 1) 2 (xs 1 - xs (1 - 1)) (by omega) (by omega) (by rw [show min 2 n = 2 by omega]; rfl) (by omega) _ _ _ (hP.sub [0, 1] rfl) (hD.sub [0, 1] (by decide) rfl) hS (lv_sub hl [2, 1, 0] rfl)

set_option maxHeartbeats 4000000 in
set_option maxRecDepth 100000 in
theorem m_gstep (l : Launch) (D : va_G) (cJ cB cI cF : ClassId) (qm : Nat) (cd : Int32) (n : Nat) (qmr : Nat) (fm : Int32) (cm : Nat) (qmc : Nat) (szv : Nat) (qmb : Nat) (btv : Nat) (dm : Nat) (qml : Nat) (xs : Nat → Int64) (sz : Nat) (hn0 : 0 < n) (hn : n ≤ 1024) : Met l yMo_greatestStep (Cond.code yMo_greatestStep cMo_greatestStep 4 (some .long) :: wsG) ({ frames := 1, cells := 0, slots := 0, locals := 21 }) (va_Pc [.ref qm] (cfPre D (cfT cJ cB cI cF) [(qm, .inr (9, [.int cd, .int (nI n), .ref qmr, .int fm, .int (nI cm), .ref qmc, .int (nI szv), .ref qmb, .int (nI btv), .int (nI dm), .ref qml])), (qmr, .inl (cJ, 1024, .inr (.inl xs)))] sz)) (va_Ql (fun (r : Int64) (u : Unit) => r = sHi xs n ∧ True) (fun u t => cfPost D ((fun (u : Unit) => [(qm, .inr (9, [.int cd, .int (nI n), .ref qmr, .int fm, .int (nI cm), .ref qmc, .int (nI szv), .ref qmb, .int (nI btv), .int (nI dm), .ref qml])), (qmr, .inl (cJ, 1024, .inr (.inl xs)))]) u) (va_A [(qm, .inr (9, [.int cd, .int (nI n), .ref qmr, .int fm, .int (nI cm), .ref qmc, .int (nI szv), .ref qmb, .int (nI btv), .int (nI dm), .ref qml])), (qmr, .inl (cJ, 1024, .inr (.inl xs)))] sz) t) (va_A [(qm, .inr (9, [.int cd, .int (nI n), .ref qmr, .int fm, .int (nI cm), .ref qmc, .int (nI szv), .ref qmb, .int (nI btv), .int (nI dm), .ref qml])), (qmr, .inl (cJ, 1024, .inr (.inl xs)))] sz)) 0 0 (va_A [(qm, .inr (9, [.int cd, .int (nI n), .ref qmr, .int fm, .int (nI cm), .ref qmc, .int (nI szv), .ref qmb, .int (nI btv), .int (nI dm), .ref qml])), (qmr, .inl (cJ, 1024, .inr (.inl xs)))] sz) := by
  refine met_l (cc := cMo_greatestStep) (maxL := 4) (S := Unit) (D := D) (wO := fun (u : Unit) => [(qm, .inr (9, [.int cd, .int (nI n), .ref qmr, .int fm, .int (nI cm), .ref qmc, .int (nI szv), .ref qmb, .int (nI btv), .int (nI dm), .ref qml])), (qmr, .inl (cJ, 1024, .inr (.inl xs)))]) (by decide) (Nat.le_of_ble_eq_true rfl) ?_
  intro p e s m below meth c hx hb hml hown hts hlocks hin hWd A hA hsz hP hK hD hS Q hret ls hl
  have hown : s.vm.findClass "ColumnFormsModel" = some m.cls := hown
  have hl : lv_has ls 4 [(0, .ref qm)] := hl
  have hP : va_P D vwCl [(qm, .inr (9, [.int cd, .int (nI n), .ref qmr, .int fm, .int (nI cm), .ref qmc, .int (nI szv), .ref qmb, .int (nI btv), .int (nI dm), .ref qml])), (qmr, .inl (cJ, 1024, .inr (.inl xs)))] s.heap := hP
  refine lv_aload_n hx hb dMo_greatestStep_0 rfl (lv_at hl 0 rfl) ?_
  refine va_get (D := D) (ci := 9) (v := .int (nI n)) (C := "ColumnFormsModel") (T := TMo) (N := 11) hx hb hts inMo hown hK hP 0 rfl rfl 1 (by decide) (hts _ tw_590) (fun _ h9 => h9) rfl dMo_greatestStep_1 ?_
  refine lv_iconst (v := nI 1) hx hb dMo_greatestStep_4 (by decide) ?_
  refine lv_icmp_le (tgt := 16) hx hb dMo_greatestStep_5 (by decide) (fun c5 => ?_) (fun c5 => ?_)
  · have c5 : n ≤ 1 := (nI_leI (by omega) (by omega)).mp c5
    refine lv_lconst (v := 0) hx hb dMo_greatestStep_16 (by decide) ?_
    refine lv_lstore_n (lv' := [(1, .long 0), (0, .ref qm)]) hx hb dMo_greatestStep_17 rfl hl (by decide) rfl (fun ls hl => ?_)
    refine lv_iconst (v := nI 2) hx hb dMo_greatestStep_18 (by decide) ?_
    refine lv_istore_n (lv' := [(3, .int (nI 2)), (1, .long 0), (0, .ref qm)]) hx hb dMo_greatestStep_19 rfl hl (by decide) rfl (fun ls hl => ?_)
    have lp : ∀ (k_lp : Nat) (k : Nat) (vl : Int64), (2 ≤ k) → (k ≤ 1025) → (vl = sHi xs (min k n)) → (n - k < k_lp) → ∀ (H : Heap) (locs : List Loc) (ls : Array Slot), va_P D vwCl [(qm, .inr (9, [.int cd, .int (nI n), .ref qmr, .int fm, .int (nI cm), .ref qmc, .int (nI szv), .ref qmb, .int (nI btv), .int (nI dm), .ref qml])), (qmr, .inl (cJ, 1024, .inr (.inl xs)))] H → va_D A [(qm, .inr (9, [.int cd, .int (nI n), .ref qmr, .int fm, .int (nI cm), .ref qmc, .int (nI szv), .ref qmb, .int (nI btv), .int (nI dm), .ref qml])), (qmr, .inl (cJ, 1024, .inr (.inl xs)))] → va_S A s.heap H locs → lv_has ls 4 [(0, .ref qm), (1, .long vl), (3, .int (nI k))] → W p l e ({ frames := 1, cells := 0, slots := 0, locals := 21 }) s m ([.ref qm].toArray) below meth c H locs (0) (0) Q (F0 m 20 ls []) := by
      intro k_lp
      induction k_lp with
      | zero => intro k vl g0 g1 g2 hfu; exact absurd hfu (by omega)
      | succ k_lp ih_lp =>
        intro k vl g0 g1 g2 hfu H locs ls hP hD hS hl
        refine lv_iload_n hx hb dMo_greatestStep_20 rfl (lv_at hl 2 rfl) ?_
        refine lv_aload_n hx hb dMo_greatestStep_21 rfl (lv_at hl 0 rfl) ?_
        refine va_get (D := D) (ci := 9) (v := .int (nI n)) (C := "ColumnFormsModel") (T := TMo) (N := 11) hx hb hts inMo hown hK hP 0 rfl rfl 1 (by decide) (hts _ tw_590) (fun _ h9 => h9) rfl dMo_greatestStep_22 ?_
        refine lv_icmp_ge (tgt := 54) hx hb dMo_greatestStep_25 (by decide) (fun c25 => ?_) (fun c25 => ?_)
        · have c25 : n ≤ k := (nI_leI (by omega) (by omega)).mp c25
          refine lv_lload_n hx hb dMo_greatestStep_54 rfl (lv_at hl 1 rfl) ?_
          exact hret vl () _ _ _ _ _ _ ⟨by rw [g2, show min k n = n by omega], trivial⟩ (hP.sub [0, 1] rfl) (hD.sub [0, 1] (by decide) rfl) hS (Nat.le_of_ble_eq_true rfl) (Nat.le_of_ble_eq_true rfl) dMo_greatestStep_55
        · have c25 : ¬ n ≤ k := fun h => c25 ((nI_leI (by omega) (by omega)).mpr h)
          refine lv_aload_n hx hb dMo_greatestStep_28 rfl (lv_at hl 0 rfl) ?_
          refine lv_iload_n hx hb dMo_greatestStep_29 rfl (lv_at hl 2 rfl) ?_
          refine kc_l (wc := [(qm, .inr (9, [.int cd, .int (nI n), .ref qmr, .int fm, .int (nI cm), .ref qmc, .int (nI szv), .ref qmb, .int (nI btv), .int (nI dm), .ref qml])), (qmr, .inl (cJ, 1024, .inr (.inl xs)))]) (wr := []) hP hD hS hA [0, 1] [] rfl rfl (by decide) (by decide) (by decide) (fun hPc hDc => va_runV (As := [.int (nI k)]) (rest := []) ⟨hx, hb, hml, hown, hts⟩ (m_step l D cJ cB cI cF qm cd n qmr fm cm qmc szv qmb btv dm qml xs k _ (by omega) (by omega)) (cwV 1 hts (wsG_k tw_677 (wsG_k tw_679 (wsG_k tp_w18 (wsG_k tw_10 (wsG_c tw_680))))) rfl rfl rfl (by decide +kernel) ⟨Nat.le_of_ble_eq_true rfl, Nat.le_of_ble_eq_true rfl⟩) ⟨cf_blind, va_recv hK hPc (ci := 9) (q0 := 0) rfl rfl, cf_pre hPc hK hDc hWd⟩ rfl rfl hl.1 rfl (lv_room (Nat.le_of_ble_eq_true rfl)) dMo_greatestStep_30 ⟨Nat.le_of_ble_eq_true rfl, Nat.le_of_ble_eq_true rfl⟩) (fun r u H locs hw hP hD hS => ?_)
          obtain ⟨rfl, -⟩ := hw
          have hP : va_P D vwCl [(qm, .inr (9, [.int cd, .int (nI n), .ref qmr, .int fm, .int (nI cm), .ref qmc, .int (nI szv), .ref qmb, .int (nI btv), .int (nI dm), .ref qml])), (qmr, .inl (cJ, 1024, .inr (.inl xs)))] H := hP
          have hD : va_D A [(qm, .inr (9, [.int cd, .int (nI n), .ref qmr, .int fm, .int (nI cm), .ref qmc, .int (nI szv), .ref qmb, .int (nI btv), .int (nI dm), .ref qml])), (qmr, .inl (cJ, 1024, .inr (.inl xs)))] := hD
          refine lv_lload_n hx hb dMo_greatestStep_33 rfl (lv_at hl 1 rfl) ?_
          refine W.lcmp hx hb dMo_greatestStep_34 ?_
          refine lv_if_le (tgt := 46) hx hb dMo_greatestStep_35 (by decide) (fun c35 => ?_) (fun c35 => ?_)
          · have c35 : (xs k - xs (k - 1)) ≤ vl := (lg_cmp_le _ _).mp c35
            refine lv_lload_n hx hb dMo_greatestStep_46 rfl (lv_at hl 1 rfl) ?_
            refine lv_lstore_n (lv' := [(1, .long vl), (0, .ref qm), (3, .int (nI k))]) hx hb dMo_greatestStep_47 rfl hl (by decide) rfl (fun ls hl => ?_)
            refine lv_iinc (v := nI (k + 1)) (lv' := [(3, .int (nI (k + 1))), (1, .long vl), (0, .ref qm)]) hx hb dMo_greatestStep_48 hl (k := 2) rfl (by rw [show (Int32.ofInt 1) = nI 1 from by decide]; exact nI_add _ _) (by decide) rfl (fun ls hl => ?_)
            refine lv_goto (tgt := 20) hx hb dMo_greatestStep_51 (by decide) ?_
            exact ih_lp (k + 1) vl (by omega) (by omega) (by rw [show min (k + 1) n = k + 1 by omega, sHi_s (by omega)]; rw [show min k n = k by omega] at g2; rw [← g2]; exact lMax_no c35) (by omega) _ _ _ (hP.sub [0, 1] rfl) (hD.sub [0, 1] (by decide) rfl) hS (lv_sub hl [2, 1, 0] rfl)
          · have c35 : ¬ (xs k - xs (k - 1)) ≤ vl := fun h => c35 ((lg_cmp_le _ _).mpr h)
            refine lv_aload_n hx hb dMo_greatestStep_38 rfl (lv_at hl 0 rfl) ?_
            refine lv_iload_n hx hb dMo_greatestStep_39 rfl (lv_at hl 2 rfl) ?_
            refine kc_l (wc := [(qm, .inr (9, [.int cd, .int (nI n), .ref qmr, .int fm, .int (nI cm), .ref qmc, .int (nI szv), .ref qmb, .int (nI btv), .int (nI dm), .ref qml])), (qmr, .inl (cJ, 1024, .inr (.inl xs)))]) (wr := []) hP hD hS hA [0, 1] [] rfl rfl (by decide) (by decide) (by decide) (fun hPc hDc => va_runV (As := [.int (nI k)]) (rest := []) ⟨hx, hb, hml, hown, hts⟩ (m_step l D cJ cB cI cF qm cd n qmr fm cm qmc szv qmb btv dm qml xs k _ (by omega) (by omega)) (cwV 1 hts (wsG_k tw_677 (wsG_k tw_679 (wsG_k tp_w18 (wsG_k tw_10 (wsG_c tw_680))))) rfl rfl rfl (by decide +kernel) ⟨Nat.le_of_ble_eq_true rfl, Nat.le_of_ble_eq_true rfl⟩) ⟨cf_blind, va_recv hK hPc (ci := 9) (q0 := 0) rfl rfl, cf_pre hPc hK hDc hWd⟩ rfl rfl hl.1 rfl (lv_room (Nat.le_of_ble_eq_true rfl)) dMo_greatestStep_40 ⟨Nat.le_of_ble_eq_true rfl, Nat.le_of_ble_eq_true rfl⟩) (fun r u H locs hw hP hD hS => ?_)
            obtain ⟨rfl, -⟩ := hw
            have hP : va_P D vwCl [(qm, .inr (9, [.int cd, .int (nI n), .ref qmr, .int fm, .int (nI cm), .ref qmc, .int (nI szv), .ref qmb, .int (nI btv), .int (nI dm), .ref qml])), (qmr, .inl (cJ, 1024, .inr (.inl xs)))] H := hP
            have hD : va_D A [(qm, .inr (9, [.int cd, .int (nI n), .ref qmr, .int fm, .int (nI cm), .ref qmc, .int (nI szv), .ref qmb, .int (nI btv), .int (nI dm), .ref qml])), (qmr, .inl (cJ, 1024, .inr (.inl xs)))] := hD
            refine lv_goto (tgt := 47) hx hb dMo_greatestStep_43 (by decide) ?_
            refine lv_lstore_n (lv' := [(1, .long (xs k - xs (k - 1))), (0, .ref qm), (3, .int (nI k))]) hx hb dMo_greatestStep_47 rfl hl (by decide) rfl (fun ls hl => ?_)
            refine lv_iinc (v := nI (k + 1)) (lv' := [(3, .int (nI (k + 1))), (1, .long (xs k - xs (k - 1))), (0, .ref qm)]) hx hb dMo_greatestStep_48 hl (k := 2) rfl (by rw [show (Int32.ofInt 1) = nI 1 from by decide]; exact nI_add _ _) (by decide) rfl (fun ls hl => ?_)
            refine lv_goto (tgt := 20) hx hb dMo_greatestStep_51 (by decide) ?_
            exact ih_lp (k + 1) (xs k - xs (k - 1)) (by omega) (by omega) (by rw [show min (k + 1) n = k + 1 by omega, sHi_s (by omega)]; rw [show min k n = k by omega] at g2; rw [← g2]; exact lMax_y c35) (by omega) _ _ _ (hP.sub [0, 1] rfl) (hD.sub [0, 1] (by decide) rfl) hS (lv_sub hl [2, 1, 0] rfl)
    exact lp (n - 2 + 1) 2 0 (by omega) (by omega) (by rw [show min 2 n = 1 by omega]; rfl) (by omega) _ _ _ (hP.sub [0, 1] rfl) (hD.sub [0, 1] (by decide) rfl) hS (lv_sub hl [2, 1, 0] rfl)
  · have c5 : ¬ n ≤ 1 := fun h => c5 ((nI_leI (by omega) (by omega)).mpr h)
    refine lv_aload_n hx hb dMo_greatestStep_8 rfl (lv_at hl 0 rfl) ?_
    refine lv_iconst (v := nI 1) hx hb dMo_greatestStep_9 (by decide) ?_
    refine kc_l (wc := [(qm, .inr (9, [.int cd, .int (nI n), .ref qmr, .int fm, .int (nI cm), .ref qmc, .int (nI szv), .ref qmb, .int (nI btv), .int (nI dm), .ref qml])), (qmr, .inl (cJ, 1024, .inr (.inl xs)))]) (wr := []) hP hD hS hA [0, 1] [] rfl rfl (by decide) (by decide) (by decide) (fun hPc hDc => va_runV (As := [.int (nI 1)]) (rest := []) ⟨hx, hb, hml, hown, hts⟩ (m_step l D cJ cB cI cF qm cd n qmr fm cm qmc szv qmb btv dm qml xs 1 _ (by omega) (by omega)) (cwV 1 hts (wsG_k tw_677 (wsG_k tw_679 (wsG_k tp_w18 (wsG_k tw_10 (wsG_c tw_680))))) rfl rfl rfl (by decide +kernel) ⟨Nat.le_of_ble_eq_true rfl, Nat.le_of_ble_eq_true rfl⟩) ⟨cf_blind, va_recv hK hPc (ci := 9) (q0 := 0) rfl rfl, cf_pre hPc hK hDc hWd⟩ rfl rfl hl.1 rfl (lv_room (Nat.le_of_ble_eq_true rfl)) dMo_greatestStep_10 ⟨Nat.le_of_ble_eq_true rfl, Nat.le_of_ble_eq_true rfl⟩) (fun r u H locs hw hP hD hS => ?_)
    obtain ⟨rfl, -⟩ := hw
    have hP : va_P D vwCl [(qm, .inr (9, [.int cd, .int (nI n), .ref qmr, .int fm, .int (nI cm), .ref qmc, .int (nI szv), .ref qmb, .int (nI btv), .int (nI dm), .ref qml])), (qmr, .inl (cJ, 1024, .inr (.inl xs)))] H := hP
    have hD : va_D A [(qm, .inr (9, [.int cd, .int (nI n), .ref qmr, .int fm, .int (nI cm), .ref qmc, .int (nI szv), .ref qmb, .int (nI btv), .int (nI dm), .ref qml])), (qmr, .inl (cJ, 1024, .inr (.inl xs)))] := hD
    refine lv_goto (tgt := 17) hx hb dMo_greatestStep_13 (by decide) ?_
    refine lv_lstore_n (lv' := [(1, .long (xs 1 - xs (1 - 1))), (0, .ref qm)]) hx hb dMo_greatestStep_17 rfl hl (by decide) rfl (fun ls hl => ?_)
    refine lv_iconst (v := nI 2) hx hb dMo_greatestStep_18 (by decide) ?_
    refine lv_istore_n (lv' := [(3, .int (nI 2)), (1, .long (xs 1 - xs (1 - 1))), (0, .ref qm)]) hx hb dMo_greatestStep_19 rfl hl (by decide) rfl (fun ls hl => ?_)
    have lp : ∀ (k_lp : Nat) (k : Nat) (vl : Int64), (2 ≤ k) → (k ≤ 1025) → (vl = sHi xs (min k n)) → (n - k < k_lp) → ∀ (H : Heap) (locs : List Loc) (ls : Array Slot), va_P D vwCl [(qm, .inr (9, [.int cd, .int (nI n), .ref qmr, .int fm, .int (nI cm), .ref qmc, .int (nI szv), .ref qmb, .int (nI btv), .int (nI dm), .ref qml])), (qmr, .inl (cJ, 1024, .inr (.inl xs)))] H → va_D A [(qm, .inr (9, [.int cd, .int (nI n), .ref qmr, .int fm, .int (nI cm), .ref qmc, .int (nI szv), .ref qmb, .int (nI btv), .int (nI dm), .ref qml])), (qmr, .inl (cJ, 1024, .inr (.inl xs)))] → va_S A s.heap H locs → lv_has ls 4 [(0, .ref qm), (1, .long vl), (3, .int (nI k))] → W p l e ({ frames := 1, cells := 0, slots := 0, locals := 21 }) s m ([.ref qm].toArray) below meth c H locs (0) (0) Q (F0 m 20 ls []) := by
      intro k_lp
      induction k_lp with
      | zero => intro k vl g0 g1 g2 hfu; exact absurd hfu (by omega)
      | succ k_lp ih_lp =>
        intro k vl g0 g1 g2 hfu H locs ls hP hD hS hl
        refine lv_iload_n hx hb dMo_greatestStep_20 rfl (lv_at hl 2 rfl) ?_
        refine lv_aload_n hx hb dMo_greatestStep_21 rfl (lv_at hl 0 rfl) ?_
        refine va_get (D := D) (ci := 9) (v := .int (nI n)) (C := "ColumnFormsModel") (T := TMo) (N := 11) hx hb hts inMo hown hK hP 0 rfl rfl 1 (by decide) (hts _ tw_590) (fun _ h9 => h9) rfl dMo_greatestStep_22 ?_
        refine lv_icmp_ge (tgt := 54) hx hb dMo_greatestStep_25 (by decide) (fun c25 => ?_) (fun c25 => ?_)
        · have c25 : n ≤ k := (nI_leI (by omega) (by omega)).mp c25
          refine lv_lload_n hx hb dMo_greatestStep_54 rfl (lv_at hl 1 rfl) ?_
          exact hret vl () _ _ _ _ _ _ ⟨by rw [g2, show min k n = n by omega], trivial⟩ (hP.sub [0, 1] rfl) (hD.sub [0, 1] (by decide) rfl) hS (Nat.le_of_ble_eq_true rfl) (Nat.le_of_ble_eq_true rfl) dMo_greatestStep_55
        · have c25 : ¬ n ≤ k := fun h => c25 ((nI_leI (by omega) (by omega)).mpr h)
          refine lv_aload_n hx hb dMo_greatestStep_28 rfl (lv_at hl 0 rfl) ?_
          refine lv_iload_n hx hb dMo_greatestStep_29 rfl (lv_at hl 2 rfl) ?_
          refine kc_l (wc := [(qm, .inr (9, [.int cd, .int (nI n), .ref qmr, .int fm, .int (nI cm), .ref qmc, .int (nI szv), .ref qmb, .int (nI btv), .int (nI dm), .ref qml])), (qmr, .inl (cJ, 1024, .inr (.inl xs)))]) (wr := []) hP hD hS hA [0, 1] [] rfl rfl (by decide) (by decide) (by decide) (fun hPc hDc => va_runV (As := [.int (nI k)]) (rest := []) ⟨hx, hb, hml, hown, hts⟩ (m_step l D cJ cB cI cF qm cd n qmr fm cm qmc szv qmb btv dm qml xs k _ (by omega) (by omega)) (cwV 1 hts (wsG_k tw_677 (wsG_k tw_679 (wsG_k tp_w18 (wsG_k tw_10 (wsG_c tw_680))))) rfl rfl rfl (by decide +kernel) ⟨Nat.le_of_ble_eq_true rfl, Nat.le_of_ble_eq_true rfl⟩) ⟨cf_blind, va_recv hK hPc (ci := 9) (q0 := 0) rfl rfl, cf_pre hPc hK hDc hWd⟩ rfl rfl hl.1 rfl (lv_room (Nat.le_of_ble_eq_true rfl)) dMo_greatestStep_30 ⟨Nat.le_of_ble_eq_true rfl, Nat.le_of_ble_eq_true rfl⟩) (fun r u H locs hw hP hD hS => ?_)
          obtain ⟨rfl, -⟩ := hw
          have hP : va_P D vwCl [(qm, .inr (9, [.int cd, .int (nI n), .ref qmr, .int fm, .int (nI cm), .ref qmc, .int (nI szv), .ref qmb, .int (nI btv), .int (nI dm), .ref qml])), (qmr, .inl (cJ, 1024, .inr (.inl xs)))] H := hP
          have hD : va_D A [(qm, .inr (9, [.int cd, .int (nI n), .ref qmr, .int fm, .int (nI cm), .ref qmc, .int (nI szv), .ref qmb, .int (nI btv), .int (nI dm), .ref qml])), (qmr, .inl (cJ, 1024, .inr (.inl xs)))] := hD
          refine lv_lload_n hx hb dMo_greatestStep_33 rfl (lv_at hl 1 rfl) ?_
          refine W.lcmp hx hb dMo_greatestStep_34 ?_
          refine lv_if_le (tgt := 46) hx hb dMo_greatestStep_35 (by decide) (fun c35 => ?_) (fun c35 => ?_)
          · have c35 : (xs k - xs (k - 1)) ≤ vl := (lg_cmp_le _ _).mp c35
            refine lv_lload_n hx hb dMo_greatestStep_46 rfl (lv_at hl 1 rfl) ?_
            refine lv_lstore_n (lv' := [(1, .long vl), (0, .ref qm), (3, .int (nI k))]) hx hb dMo_greatestStep_47 rfl hl (by decide) rfl (fun ls hl => ?_)
            refine lv_iinc (v := nI (k + 1)) (lv' := [(3, .int (nI (k + 1))), (1, .long vl), (0, .ref qm)]) hx hb dMo_greatestStep_48 hl (k := 2) rfl (by rw [show (Int32.ofInt 1) = nI 1 from by decide]; exact nI_add _ _) (by decide) rfl (fun ls hl => ?_)
            refine lv_goto (tgt := 20) hx hb dMo_greatestStep_51 (by decide) ?_
            exact ih_lp (k + 1) vl (by omega) (by omega) (by rw [show min (k + 1) n = k + 1 by omega, sHi_s (by omega)]; rw [show min k n = k by omega] at g2; rw [← g2]; exact lMax_no c35) (by omega) _ _ _ (hP.sub [0, 1] rfl) (hD.sub [0, 1] (by decide) rfl) hS (lv_sub hl [2, 1, 0] rfl)
          · have c35 : ¬ (xs k - xs (k - 1)) ≤ vl := fun h => c35 ((lg_cmp_le _ _).mpr h)
            refine lv_aload_n hx hb dMo_greatestStep_38 rfl (lv_at hl 0 rfl) ?_
            refine lv_iload_n hx hb dMo_greatestStep_39 rfl (lv_at hl 2 rfl) ?_
            refine kc_l (wc := [(qm, .inr (9, [.int cd, .int (nI n), .ref qmr, .int fm, .int (nI cm), .ref qmc, .int (nI szv), .ref qmb, .int (nI btv), .int (nI dm), .ref qml])), (qmr, .inl (cJ, 1024, .inr (.inl xs)))]) (wr := []) hP hD hS hA [0, 1] [] rfl rfl (by decide) (by decide) (by decide) (fun hPc hDc => va_runV (As := [.int (nI k)]) (rest := []) ⟨hx, hb, hml, hown, hts⟩ (m_step l D cJ cB cI cF qm cd n qmr fm cm qmc szv qmb btv dm qml xs k _ (by omega) (by omega)) (cwV 1 hts (wsG_k tw_677 (wsG_k tw_679 (wsG_k tp_w18 (wsG_k tw_10 (wsG_c tw_680))))) rfl rfl rfl (by decide +kernel) ⟨Nat.le_of_ble_eq_true rfl, Nat.le_of_ble_eq_true rfl⟩) ⟨cf_blind, va_recv hK hPc (ci := 9) (q0 := 0) rfl rfl, cf_pre hPc hK hDc hWd⟩ rfl rfl hl.1 rfl (lv_room (Nat.le_of_ble_eq_true rfl)) dMo_greatestStep_40 ⟨Nat.le_of_ble_eq_true rfl, Nat.le_of_ble_eq_true rfl⟩) (fun r u H locs hw hP hD hS => ?_)
            obtain ⟨rfl, -⟩ := hw
            have hP : va_P D vwCl [(qm, .inr (9, [.int cd, .int (nI n), .ref qmr, .int fm, .int (nI cm), .ref qmc, .int (nI szv), .ref qmb, .int (nI btv), .int (nI dm), .ref qml])), (qmr, .inl (cJ, 1024, .inr (.inl xs)))] H := hP
            have hD : va_D A [(qm, .inr (9, [.int cd, .int (nI n), .ref qmr, .int fm, .int (nI cm), .ref qmc, .int (nI szv), .ref qmb, .int (nI btv), .int (nI dm), .ref qml])), (qmr, .inl (cJ, 1024, .inr (.inl xs)))] := hD
            refine lv_goto (tgt := 47) hx hb dMo_greatestStep_43 (by decide) ?_
            refine lv_lstore_n (lv' := [(1, .long (xs k - xs (k - 1))), (0, .ref qm), (3, .int (nI k))]) hx hb dMo_greatestStep_47 rfl hl (by decide) rfl (fun ls hl => ?_)
            refine lv_iinc (v := nI (k + 1)) (lv' := [(3, .int (nI (k + 1))), (1, .long (xs k - xs (k - 1))), (0, .ref qm)]) hx hb dMo_greatestStep_48 hl (k := 2) rfl (by rw [show (Int32.ofInt 1) = nI 1 from by decide]; exact nI_add _ _) (by decide) rfl (fun ls hl => ?_)
            refine lv_goto (tgt := 20) hx hb dMo_greatestStep_51 (by decide) ?_
            exact ih_lp (k + 1) (xs k - xs (k - 1)) (by omega) (by omega) (by rw [show min (k + 1) n = k + 1 by omega, sHi_s (by omega)]; rw [show min k n = k by omega] at g2; rw [← g2]; exact lMax_y c35) (by omega) _ _ _ (hP.sub [0, 1] rfl) (hD.sub [0, 1] (by decide) rfl) hS (lv_sub hl [2, 1, 0] rfl)
    exact lp (n - 2 + 1) 2 (xs 1 - xs (1 - 1)) (by omega) (by omega) (by rw [show min 2 n = 2 by omega]; rfl) (by omega) _ _ _ (hP.sub [0, 1] rfl) (hD.sub [0, 1] (by decide) rfl) hS (lv_sub hl [2, 1, 0] rfl)

set_option maxHeartbeats 4000000 in
set_option maxRecDepth 100000 in
theorem m_runs (l : Launch) (D : va_G) (cJ cB cI cF : ClassId) (qm : Nat) (cd : Int32) (n : Nat) (qmr : Nat) (fm : Int32) (cm : Nat) (qmc : Nat) (szv : Nat) (qmb : Nat) (btv : Nat) (dm : Nat) (qml : Nat) (xs : Nat → Int64) (sz : Nat) (hn0 : 0 < n) (hn : n ≤ 1024) : Met l yMo_runs (Cond.code yMo_runs cMo_runs 3 (some .int) :: wsG) ({ frames := 0, cells := 0, slots := 0, locals := 0 }) (va_Pc [.ref qm] (cfPre D (cfT cJ cB cI cF) [(qm, .inr (9, [.int cd, .int (nI n), .ref qmr, .int fm, .int (nI cm), .ref qmc, .int (nI szv), .ref qmb, .int (nI btv), .int (nI dm), .ref qml])), (qmr, .inl (cJ, 1024, .inr (.inl xs)))] sz)) (va_Qi (fun (r : Int32) (u : Unit) => r = nI (rRn xs n) ∧ True) (fun u t => cfPost D ((fun (u : Unit) => [(qm, .inr (9, [.int cd, .int (nI n), .ref qmr, .int fm, .int (nI cm), .ref qmc, .int (nI szv), .ref qmb, .int (nI btv), .int (nI dm), .ref qml])), (qmr, .inl (cJ, 1024, .inr (.inl xs)))]) u) (va_A [(qm, .inr (9, [.int cd, .int (nI n), .ref qmr, .int fm, .int (nI cm), .ref qmc, .int (nI szv), .ref qmb, .int (nI btv), .int (nI dm), .ref qml])), (qmr, .inl (cJ, 1024, .inr (.inl xs)))] sz) t) (va_A [(qm, .inr (9, [.int cd, .int (nI n), .ref qmr, .int fm, .int (nI cm), .ref qmc, .int (nI szv), .ref qmb, .int (nI btv), .int (nI dm), .ref qml])), (qmr, .inl (cJ, 1024, .inr (.inl xs)))] sz)) 0 0 (va_A [(qm, .inr (9, [.int cd, .int (nI n), .ref qmr, .int fm, .int (nI cm), .ref qmc, .int (nI szv), .ref qmb, .int (nI btv), .int (nI dm), .ref qml])), (qmr, .inl (cJ, 1024, .inr (.inl xs)))] sz) := by
  refine met_i (cc := cMo_runs) (maxL := 3) (S := Unit) (D := D) (wO := fun (u : Unit) => [(qm, .inr (9, [.int cd, .int (nI n), .ref qmr, .int fm, .int (nI cm), .ref qmc, .int (nI szv), .ref qmb, .int (nI btv), .int (nI dm), .ref qml])), (qmr, .inl (cJ, 1024, .inr (.inl xs)))]) (by decide) (Nat.le_of_ble_eq_true rfl) ?_
  intro p e s m below meth c hx hb hml hown hts hlocks hin hWd A hA hsz hP hK hD hS Q hret ls hl
  have hown : s.vm.findClass "ColumnFormsModel" = some m.cls := hown
  have hl : lv_has ls 3 [(0, .ref qm)] := hl
  have hP : va_P D vwCl [(qm, .inr (9, [.int cd, .int (nI n), .ref qmr, .int fm, .int (nI cm), .ref qmc, .int (nI szv), .ref qmb, .int (nI btv), .int (nI dm), .ref qml])), (qmr, .inl (cJ, 1024, .inr (.inl xs)))] s.heap := hP
  refine lv_iconst (v := nI 1) hx hb dMo_runs_0 (by decide) ?_
  refine lv_istore_n (lv' := [(1, .int (nI 1)), (0, .ref qm)]) hx hb dMo_runs_1 rfl hl (by decide) rfl (fun ls hl => ?_)
  refine lv_iconst (v := nI 1) hx hb dMo_runs_2 (by decide) ?_
  refine lv_istore_n (lv' := [(2, .int (nI 1)), (1, .int (nI 1)), (0, .ref qm)]) hx hb dMo_runs_3 rfl hl (by decide) rfl (fun ls hl => ?_)
  have lp : ∀ (k_lp : Nat) (k : Nat) (rr : Nat), (1 ≤ k) → (k ≤ n) → (rr = rRn xs k) → (n - k < k_lp) → ∀ (H : Heap) (locs : List Loc) (ls : Array Slot), va_P D vwCl [(qm, .inr (9, [.int cd, .int (nI n), .ref qmr, .int fm, .int (nI cm), .ref qmc, .int (nI szv), .ref qmb, .int (nI btv), .int (nI dm), .ref qml])), (qmr, .inl (cJ, 1024, .inr (.inl xs)))] H → va_D A [(qm, .inr (9, [.int cd, .int (nI n), .ref qmr, .int fm, .int (nI cm), .ref qmc, .int (nI szv), .ref qmb, .int (nI btv), .int (nI dm), .ref qml])), (qmr, .inl (cJ, 1024, .inr (.inl xs)))] → va_S A s.heap H locs → lv_has ls 3 [(0, .ref qm), (1, .int (nI rr)), (2, .int (nI k))] → W p l e ({ frames := 0, cells := 0, slots := 0, locals := 0 }) s m ([.ref qm].toArray) below meth c H locs (0) (0) Q (F0 m 4 ls []) := by
    intro k_lp
    induction k_lp with
    | zero => intro k rr g0 g1 g2 hfu; exact absurd hfu (by omega)
    | succ k_lp ih_lp =>
      intro k rr g0 g1 g2 hfu H locs ls hP hD hS hl
      refine lv_iload_n hx hb dMo_runs_4 rfl (lv_at hl 2 rfl) ?_
      refine lv_aload_n hx hb dMo_runs_5 rfl (lv_at hl 0 rfl) ?_
      refine va_get (D := D) (ci := 9) (v := .int (nI n)) (C := "ColumnFormsModel") (T := TMo) (N := 11) hx hb hts inMo hown hK hP 0 rfl rfl 1 (by decide) (hts _ tw_590) (fun _ h9 => h9) rfl dMo_runs_6 ?_
      refine lv_icmp_ge (tgt := 44) hx hb dMo_runs_9 (by decide) (fun c9 => ?_) (fun c9 => ?_)
      · have c9 : n ≤ k := (nI_leI (by omega) (by omega)).mp c9
        refine lv_iload_n hx hb dMo_runs_44 rfl (lv_at hl 1 rfl) ?_
        exact hret (nI rr) () _ _ _ _ _ _ ⟨congrArg nI (by rw [g2, show k = n by omega]), trivial⟩ (hP.sub [0, 1] rfl) (hD.sub [0, 1] (by decide) rfl) hS (Nat.le_of_ble_eq_true rfl) (Nat.le_of_ble_eq_true rfl) dMo_runs_45
      · have c9 : ¬ n ≤ k := fun h => c9 ((nI_leI (by omega) (by omega)).mpr h)
        refine lv_iload_n hx hb dMo_runs_12 rfl (lv_at hl 1 rfl) ?_
        refine lv_aload_n hx hb dMo_runs_13 rfl (lv_at hl 0 rfl) ?_
        refine va_get (D := D) (ci := 9) (v := .ref qmr) (C := "ColumnFormsModel") (T := TMo) (N := 11) hx hb hts inMo hown hK hP 0 rfl rfl 2 (by decide) (hts _ tw_591) (fun _ h9 => h9) rfl dMo_runs_14 ?_
        refine lv_iload_n hx hb dMo_runs_17 rfl (lv_at hl 2 rfl) ?_
        refine va_lald hx hb hK hP 1 0 rfl rfl (vp_in_nI (by omega) (by omega)) dMo_runs_18 ?_
        refine tp_l (show (xs (nI k).toNatClampNeg) = (xs k) from congrArg _ (nI_clamp (by omega))) ?_
        refine lv_aload_n hx hb dMo_runs_19 rfl (lv_at hl 0 rfl) ?_
        refine va_get (D := D) (ci := 9) (v := .ref qmr) (C := "ColumnFormsModel") (T := TMo) (N := 11) hx hb hts inMo hown hK hP 0 rfl rfl 2 (by decide) (hts _ tw_591) (fun _ h9 => h9) rfl dMo_runs_20 ?_
        refine lv_iload_n hx hb dMo_runs_23 rfl (lv_at hl 2 rfl) ?_
        refine lv_iconst (v := nI 1) hx hb dMo_runs_24 (by decide) ?_
        refine lv_isub hx hb dMo_runs_25 ?_
        refine tp_i (show ((nI k) - (nI 1)) = (nI (k - 1)) from pk_sub (by omega)) ?_
        refine va_lald hx hb hK hP 1 0 rfl rfl (vp_in_nI (by omega) (by omega)) dMo_runs_26 ?_
        refine tp_l (show (xs (nI (k - 1)).toNatClampNeg) = (xs (k - 1)) from congrArg _ (nI_clamp (by omega))) ?_
        refine W.lcmp hx hb dMo_runs_27 ?_
        refine lv_if_eq (tgt := 35) hx hb dMo_runs_28 (by decide) (fun c28 => ?_) (fun c28 => ?_)
        · have c28 : (xs k) = (xs (k - 1)) := (lg_cmp_eq _ _).mp c28
          refine lv_iconst (v := nI 0) hx hb dMo_runs_35 (by decide) ?_
          refine lv_iadd hx hb dMo_runs_36 ?_
          refine tp_i (show ((nI rr) + (nI 0)) = (nI (rr + 0)) from nI_add _ _) ?_
          refine lv_istore_n (lv' := [(1, .int (nI (rr + 0))), (0, .ref qm), (2, .int (nI k))]) hx hb dMo_runs_37 rfl hl (by decide) rfl (fun ls hl => ?_)
          refine lv_iinc (v := nI (k + 1)) (lv' := [(2, .int (nI (k + 1))), (1, .int (nI (rr + 0))), (0, .ref qm)]) hx hb dMo_runs_38 hl (k := 2) rfl (by rw [show (Int32.ofInt 1) = nI 1 from by decide]; exact nI_add _ _) (by decide) rfl (fun ls hl => ?_)
          refine lv_goto (tgt := 4) hx hb dMo_runs_41 (by decide) ?_
          exact ih_lp (k + 1) (rr + 0) (by omega) (by omega) (by rw [rRn_s (by omega), if_pos c28, g2]) (by omega) _ _ _ (hP.sub [0, 1] rfl) (hD.sub [0, 1] (by decide) rfl) hS (lv_sub hl [2, 1, 0] rfl)
        · have c28 : ¬ (xs k) = (xs (k - 1)) := fun h => c28 ((lg_cmp_eq _ _).mpr h)
          refine lv_iconst (v := nI 1) hx hb dMo_runs_31 (by decide) ?_
          refine lv_goto (tgt := 36) hx hb dMo_runs_32 (by decide) ?_
          refine lv_iadd hx hb dMo_runs_36 ?_
          refine tp_i (show ((nI rr) + (nI 1)) = (nI (rr + 1)) from nI_add _ _) ?_
          refine lv_istore_n (lv' := [(1, .int (nI (rr + 1))), (0, .ref qm), (2, .int (nI k))]) hx hb dMo_runs_37 rfl hl (by decide) rfl (fun ls hl => ?_)
          refine lv_iinc (v := nI (k + 1)) (lv' := [(2, .int (nI (k + 1))), (1, .int (nI (rr + 1))), (0, .ref qm)]) hx hb dMo_runs_38 hl (k := 2) rfl (by rw [show (Int32.ofInt 1) = nI 1 from by decide]; exact nI_add _ _) (by decide) rfl (fun ls hl => ?_)
          refine lv_goto (tgt := 4) hx hb dMo_runs_41 (by decide) ?_
          exact ih_lp (k + 1) (rr + 1) (by omega) (by omega) (by rw [rRn_s (by omega), if_neg c28, g2]) (by omega) _ _ _ (hP.sub [0, 1] rfl) (hD.sub [0, 1] (by decide) rfl) hS (lv_sub hl [2, 1, 0] rfl)
  exact lp (n - 1 + 1) 1 1 (by omega) (by omega) (rfl) (by omega) _ _ _ (hP.sub [0, 1] rfl) (hD.sub [0, 1] (by decide) rfl) hS (lv_sub hl [2, 1, 0] rfl)

set_option maxHeartbeats 4000000 in
set_option maxRecDepth 100000 in
theorem m_place (l : Launch) (D : va_G) (cJ cB cI cF : ClassId) (qm : Nat) (cd : Int32) (n : Nat) (qmr : Nat) (fm : Int32) (cm : Nat) (qmc : Nat) (szv : Nat) (qmb : Nat) (btv : Nat) (dm : Nat) (qml : Nat) (lm : Nat → Int64) (v : Int64) (t : Nat) (sz : Nat) (hd : dm ≤ 1024) (ht : rPl lm dm v t) : Met l yMo_placeOf (Cond.code yMo_placeOf cMo_placeOf 4 (some .int) :: wsG) ({ frames := 0, cells := 0, slots := 0, locals := 0 }) (va_Pc [.ref qm, .long v] (cfPre D (cfT cJ cB cI cF) [(qm, .inr (9, [.int cd, .int (nI n), .ref qmr, .int fm, .int (nI cm), .ref qmc, .int (nI szv), .ref qmb, .int (nI btv), .int (nI dm), .ref qml])), (qml, .inl (cJ, 1024, .inr (.inl lm)))] sz)) (va_Qi (fun (r : Int32) (u : Unit) => r = nI t ∧ True) (fun u t => cfPost D ((fun (u : Unit) => [(qm, .inr (9, [.int cd, .int (nI n), .ref qmr, .int fm, .int (nI cm), .ref qmc, .int (nI szv), .ref qmb, .int (nI btv), .int (nI dm), .ref qml])), (qml, .inl (cJ, 1024, .inr (.inl lm)))]) u) (va_A [(qm, .inr (9, [.int cd, .int (nI n), .ref qmr, .int fm, .int (nI cm), .ref qmc, .int (nI szv), .ref qmb, .int (nI btv), .int (nI dm), .ref qml])), (qml, .inl (cJ, 1024, .inr (.inl lm)))] sz) t) (va_A [(qm, .inr (9, [.int cd, .int (nI n), .ref qmr, .int fm, .int (nI cm), .ref qmc, .int (nI szv), .ref qmb, .int (nI btv), .int (nI dm), .ref qml])), (qml, .inl (cJ, 1024, .inr (.inl lm)))] sz)) 0 0 (va_A [(qm, .inr (9, [.int cd, .int (nI n), .ref qmr, .int fm, .int (nI cm), .ref qmc, .int (nI szv), .ref qmb, .int (nI btv), .int (nI dm), .ref qml])), (qml, .inl (cJ, 1024, .inr (.inl lm)))] sz) := by
  refine met_i (cc := cMo_placeOf) (maxL := 4) (S := Unit) (D := D) (wO := fun (u : Unit) => [(qm, .inr (9, [.int cd, .int (nI n), .ref qmr, .int fm, .int (nI cm), .ref qmc, .int (nI szv), .ref qmb, .int (nI btv), .int (nI dm), .ref qml])), (qml, .inl (cJ, 1024, .inr (.inl lm)))]) (by decide) (Nat.le_of_ble_eq_true rfl) ?_
  intro p e s m below meth c hx hb hml hown hts hlocks hin hWd A hA hsz hP hK hD hS Q hret ls hl
  have hown : s.vm.findClass "ColumnFormsModel" = some m.cls := hown
  have hl : lv_has ls 4 [(0, .ref qm), (1, .long v)] := hl
  have hP : va_P D vwCl [(qm, .inr (9, [.int cd, .int (nI n), .ref qmr, .int fm, .int (nI cm), .ref qmc, .int (nI szv), .ref qmb, .int (nI btv), .int (nI dm), .ref qml])), (qml, .inl (cJ, 1024, .inr (.inl lm)))] s.heap := hP
  have ht1 := ht.1
  refine lv_iconst (v := nI 0) hx hb dMo_placeOf_0 (by decide) ?_
  refine lv_istore_n (lv' := [(3, .int (nI 0)), (0, .ref qm), (1, .long v)]) hx hb dMo_placeOf_1 rfl hl (by decide) rfl (fun ls hl => ?_)
  have lp : ∀ (k_lp : Nat) (k : Nat), (k ≤ t) → (t + 1 - k < k_lp) → ∀ (H : Heap) (locs : List Loc) (ls : Array Slot), va_P D vwCl [(qm, .inr (9, [.int cd, .int (nI n), .ref qmr, .int fm, .int (nI cm), .ref qmc, .int (nI szv), .ref qmb, .int (nI btv), .int (nI dm), .ref qml])), (qml, .inl (cJ, 1024, .inr (.inl lm)))] H → va_D A [(qm, .inr (9, [.int cd, .int (nI n), .ref qmr, .int fm, .int (nI cm), .ref qmc, .int (nI szv), .ref qmb, .int (nI btv), .int (nI dm), .ref qml])), (qml, .inl (cJ, 1024, .inr (.inl lm)))] → va_S A s.heap H locs → lv_has ls 4 [(0, .ref qm), (1, .long v), (3, .int (nI k))] → W p l e ({ frames := 0, cells := 0, slots := 0, locals := 0 }) s m ([.ref qm, .long v].toArray) below meth c H locs (0) (0) Q (F0 m 2 ls []) := by
    intro k_lp
    induction k_lp with
    | zero => intro k g1 hfu; exact absurd hfu (by omega)
    | succ k_lp ih_lp =>
      intro k g1 hfu H locs ls hP hD hS hl
      refine lv_iload_n hx hb dMo_placeOf_2 rfl (lv_at hl 2 rfl) ?_
      refine lv_aload_n hx hb dMo_placeOf_3 rfl (lv_at hl 0 rfl) ?_
      refine va_get (D := D) (ci := 9) (v := .int (nI dm)) (C := "ColumnFormsModel") (T := TMo) (N := 11) hx hb hts inMo hown hK hP 0 rfl rfl 9 (by decide) (hts _ tw_598) (fun _ h9 => h9) rfl dMo_placeOf_4 ?_
      refine lv_icmp_ge (tgt := 27) hx hb dMo_placeOf_7 (by decide) (fun c7 => ?_) (fun c7 => ?_)
      · have c7 : dm ≤ k := (nI_leI (by omega) (by omega)).mp c7
        refine lv_iload_n hx hb dMo_placeOf_27 rfl (lv_at hl 2 rfl) ?_
        exact hret (nI k) () _ _ _ _ _ _ ⟨congrArg nI (by omega), trivial⟩ (hP.sub [0, 1] rfl) (hD.sub [0, 1] (by decide) rfl) hS (Nat.le_of_ble_eq_true rfl) (Nat.le_of_ble_eq_true rfl) dMo_placeOf_28
      · have c7 : ¬ dm ≤ k := fun h => c7 ((nI_leI (by omega) (by omega)).mpr h)
        refine lv_aload_n hx hb dMo_placeOf_10 rfl (lv_at hl 0 rfl) ?_
        refine va_get (D := D) (ci := 9) (v := .ref qml) (C := "ColumnFormsModel") (T := TMo) (N := 11) hx hb hts inMo hown hK hP 0 rfl rfl 10 (by decide) (hts _ tw_599) (fun _ h9 => h9) rfl dMo_placeOf_11 ?_
        refine lv_iload_n hx hb dMo_placeOf_14 rfl (lv_at hl 2 rfl) ?_
        refine va_lald hx hb hK hP 1 0 rfl rfl (vp_in_nI (by omega) (by omega)) dMo_placeOf_15 ?_
        refine tp_l (show (lm (nI k).toNatClampNeg) = (lm k) from congrArg _ (nI_clamp (by omega))) ?_
        refine lv_lload_n hx hb dMo_placeOf_16 rfl (lv_at hl 1 rfl) ?_
        refine W.lcmp hx hb dMo_placeOf_17 ?_
        refine lv_if_ge (tgt := 27) hx hb dMo_placeOf_18 (by decide) (fun c18 => ?_) (fun c18 => ?_)
        · have c18 : v ≤ (lm k) := (lg_cmp_ge _ _).mp c18
          refine lv_iload_n hx hb dMo_placeOf_27 rfl (lv_at hl 2 rfl) ?_
          exact hret (nI k) () _ _ _ _ _ _ ⟨congrArg nI (Nat.le_antisymm g1 (Nat.not_lt.mp (fun q => (Int64.not_lt.mpr c18) (ht.2.1 k q)))), trivial⟩ (hP.sub [0, 1] rfl) (hD.sub [0, 1] (by decide) rfl) hS (Nat.le_of_ble_eq_true rfl) (Nat.le_of_ble_eq_true rfl) dMo_placeOf_28
        · have c18 : ¬ v ≤ (lm k) := fun h => c18 ((lg_cmp_ge _ _).mpr h)
          refine lv_iinc (v := nI (k + 1)) (lv' := [(3, .int (nI (k + 1))), (0, .ref qm), (1, .long v)]) hx hb dMo_placeOf_21 hl (k := 2) rfl (by rw [show (Int32.ofInt 1) = nI 1 from by decide]; exact nI_add _ _) (by decide) rfl (fun ls hl => ?_)
          refine lv_goto (tgt := 2) hx hb dMo_placeOf_24 (by decide) ?_
          exact ih_lp (k + 1) (Nat.not_lt.mp (fun q => c18 (Int64.not_lt.mp (ht.2.2 k (by omega) (by omega))))) (by omega) _ _ _ (hP.sub [0, 1] rfl) (hD.sub [0, 1] (by decide) rfl) hS (lv_sub hl [1, 2, 0] rfl)
  exact lp (t + 1 - 0 + 1) 0 (Nat.zero_le t) (by omega) _ _ _ (hP.sub [0, 1] rfl) (hD.sub [0, 1] (by decide) rfl) hS (lv_sub hl [1, 2, 0] rfl)

set_option maxHeartbeats 4000000 in
set_option maxRecDepth 100000 in
theorem m_listAll (l : Launch) (D : va_G) (cJ cB cI cF : ClassId) (qm : Nat) (cd : Int32) (n : Nat) (qmr : Nat) (fm : Int32) (cm : Nat) (qmc : Nat) (szv : Nat) (qmb : Nat) (btv : Nat) (dm : Nat) (qml : Nat) (xs : Nat → Int64) (lm : Nat → Int64) (sz : Nat) (hn : n ≤ 1024) : Met l yMo_listAll (Cond.code yMo_listAll cMo_listAll 4 none :: wsG) ({ frames := 1, cells := 0, slots := 0, locals := 23 }) (va_Pc [.ref qm] (cfPre D (cfT cJ cB cI cF) [(qm, .inr (9, [.int cd, .int (nI n), .ref qmr, .int fm, .int (nI cm), .ref qmc, .int (nI szv), .ref qmb, .int (nI btv), .int (nI dm), .ref qml])), (qmr, .inl (cJ, 1024, .inr (.inl xs))), (qml, .inl (cJ, 1024, .inr (.inl lm)))] sz)) (va_Qv (fun (u : Nat × (Nat → Int64)) => (rInv xs n u.2 u.1) ∧ True) (fun u t => cfPost D ((fun (u : Nat × (Nat → Int64)) => [(qm, .inr (9, [.int cd, .int (nI n), .ref qmr, .int fm, .int (nI cm), .ref qmc, .int (nI szv), .ref qmb, .int (nI btv), .int (nI u.1), .ref qml])), (qmr, .inl (cJ, 1024, .inr (.inl xs))), (qml, .inl (cJ, 1024, .inr (.inl u.2)))]) u) (va_A [(qm, .inr (9, [.int cd, .int (nI n), .ref qmr, .int fm, .int (nI cm), .ref qmc, .int (nI szv), .ref qmb, .int (nI btv), .int (nI dm), .ref qml])), (qmr, .inl (cJ, 1024, .inr (.inl xs))), (qml, .inl (cJ, 1024, .inr (.inl lm)))] sz) t) (va_A [(qm, .inr (9, [.int cd, .int (nI n), .ref qmr, .int fm, .int (nI cm), .ref qmc, .int (nI szv), .ref qmb, .int (nI btv), .int (nI dm), .ref qml])), (qmr, .inl (cJ, 1024, .inr (.inl xs))), (qml, .inl (cJ, 1024, .inr (.inl lm)))] sz)) 0 0 (va_A [(qm, .inr (9, [.int cd, .int (nI n), .ref qmr, .int fm, .int (nI cm), .ref qmc, .int (nI szv), .ref qmb, .int (nI btv), .int (nI dm), .ref qml])), (qmr, .inl (cJ, 1024, .inr (.inl xs))), (qml, .inl (cJ, 1024, .inr (.inl lm)))] sz) := by
  refine met_v (cc := cMo_listAll) (maxL := 4) (S := Nat × (Nat → Int64)) (D := D) (wO := fun (u : Nat × (Nat → Int64)) => [(qm, .inr (9, [.int cd, .int (nI n), .ref qmr, .int fm, .int (nI cm), .ref qmc, .int (nI szv), .ref qmb, .int (nI btv), .int (nI u.1), .ref qml])), (qmr, .inl (cJ, 1024, .inr (.inl xs))), (qml, .inl (cJ, 1024, .inr (.inl u.2)))]) (by decide) (Nat.le_of_ble_eq_true rfl) ?_
  intro p e s m below meth c hx hb hml hown hts hlocks hin hWd A hA hsz hP hK hD hS Q hret ls hl
  have hown : s.vm.findClass "ColumnFormsModel" = some m.cls := hown
  have hl : lv_has ls 4 [(0, .ref qm)] := hl
  have hP : va_P D vwCl [(qm, .inr (9, [.int cd, .int (nI n), .ref qmr, .int fm, .int (nI cm), .ref qmc, .int (nI szv), .ref qmb, .int (nI btv), .int (nI dm), .ref qml])), (qmr, .inl (cJ, 1024, .inr (.inl xs))), (qml, .inl (cJ, 1024, .inr (.inl lm)))] s.heap := hP
  refine lv_aload_n hx hb dMo_listAll_0 rfl (lv_at hl 0 rfl) ?_
  refine lv_iconst (v := nI 0) hx hb dMo_listAll_1 (by decide) ?_
  refine va_put (D := D) (ci := 9) (v := .int (nI 0)) (ty := .int) (C := "ColumnFormsModel") (T := TMo) (N := 11) hx hb hts inMo tyMo tyMo_ok nmMo hown hK hP hD hS 0 rfl rfl 9 (by decide) (hts _ tw_598) (fun _ h9 => h9) rfl (by decide +kernel) rfl rfl (Nat.le_of_ble_eq_true rfl) dMo_listAll_2 (fun H locs hP hD hS => ?_)
  have hP : va_P D vwCl [(qm, .inr (9, [.int cd, .int (nI n), .ref qmr, .int fm, .int (nI cm), .ref qmc, .int (nI szv), .ref qmb, .int (nI btv), .int (nI 0), .ref qml])), (qmr, .inl (cJ, 1024, .inr (.inl xs))), (qml, .inl (cJ, 1024, .inr (.inl lm)))] H := hP
  have hD : va_D A [(qm, .inr (9, [.int cd, .int (nI n), .ref qmr, .int fm, .int (nI cm), .ref qmc, .int (nI szv), .ref qmb, .int (nI btv), .int (nI 0), .ref qml])), (qmr, .inl (cJ, 1024, .inr (.inl xs))), (qml, .inl (cJ, 1024, .inr (.inl lm)))] := hD
  refine lv_iconst (v := nI 0) hx hb dMo_listAll_5 (by decide) ?_
  refine lv_istore_n (lv' := [(1, .int (nI 0)), (0, .ref qm)]) hx hb dMo_listAll_6 rfl hl (by decide) rfl (fun ls hl => ?_)
  have lpA : ∀ (k_lpA : Nat) (k : Nat) (dd : Nat) (la : Nat → Int64), (k ≤ n) → (rInv xs k la dd) → (n - k < k_lpA) → ∀ (H : Heap) (locs : List Loc) (ls : Array Slot), va_P D vwCl [(qm, .inr (9, [.int cd, .int (nI n), .ref qmr, .int fm, .int (nI cm), .ref qmc, .int (nI szv), .ref qmb, .int (nI btv), .int (nI dd), .ref qml])), (qmr, .inl (cJ, 1024, .inr (.inl xs))), (qml, .inl (cJ, 1024, .inr (.inl la)))] H → va_D A [(qm, .inr (9, [.int cd, .int (nI n), .ref qmr, .int fm, .int (nI cm), .ref qmc, .int (nI szv), .ref qmb, .int (nI btv), .int (nI dd), .ref qml])), (qmr, .inl (cJ, 1024, .inr (.inl xs))), (qml, .inl (cJ, 1024, .inr (.inl la)))] → va_S A s.heap H locs → lv_has ls 4 [(0, .ref qm), (1, .int (nI k))] → W p l e ({ frames := 1, cells := 0, slots := 0, locals := 23 }) s m ([.ref qm].toArray) below meth c H locs (0) (0) Q (F0 m 7 ls []) := by
    intro k_lpA
    induction k_lpA with
    | zero => intro k dd la g1 g2 hfu; exact absurd hfu (by omega)
    | succ k_lpA ih_lpA =>
      intro k dd la g1 g2 hfu H locs ls hP hD hS hl
      refine lv_iload_n hx hb dMo_listAll_7 rfl (lv_at hl 1 rfl) ?_
      refine lv_aload_n hx hb dMo_listAll_8 rfl (lv_at hl 0 rfl) ?_
      refine va_get (D := D) (ci := 9) (v := .int (nI n)) (C := "ColumnFormsModel") (T := TMo) (N := 11) hx hb hts inMo hown hK hP 0 rfl rfl 1 (by decide) (hts _ tw_590) (fun _ h9 => h9) rfl dMo_listAll_9 ?_
      refine lv_icmp_ge (tgt := 108) hx hb dMo_listAll_12 (by decide) (fun c12 => ?_) (fun c12 => ?_)
      · have c12 : n ≤ k := (nI_leI (by omega) (by omega)).mp c12
        exact hret (dd, la) _ _ _ _ _ _ ⟨by rw [show n = k by omega]; exact g2, trivial⟩ (hP.sub [0, 1, 2] rfl) (hD.sub [0, 1, 2] (by decide) rfl) hS (Nat.le_of_ble_eq_true rfl) (Nat.le_of_ble_eq_true rfl) dMo_listAll_108
      · have c12 : ¬ n ≤ k := fun h => c12 ((nI_leI (by omega) (by omega)).mpr h)
        obtain ⟨t, ht⟩ := rPl_ex (xs k) g2.1
        have ht1 := ht.1
        have hdk := g2.2.1
        refine lv_aload_n hx hb dMo_listAll_15 rfl (lv_at hl 0 rfl) ?_
        refine lv_aload_n hx hb dMo_listAll_16 rfl (lv_at hl 0 rfl) ?_
        refine va_get (D := D) (ci := 9) (v := .ref qmr) (C := "ColumnFormsModel") (T := TMo) (N := 11) hx hb hts inMo hown hK hP 0 rfl rfl 2 (by decide) (hts _ tw_591) (fun _ h9 => h9) rfl dMo_listAll_17 ?_
        refine lv_iload_n hx hb dMo_listAll_20 rfl (lv_at hl 1 rfl) ?_
        refine va_lald hx hb hK hP 1 0 rfl rfl (vp_in_nI (by omega) (by omega)) dMo_listAll_21 ?_
        refine tp_l (show (xs (nI k).toNatClampNeg) = (xs k) from congrArg _ (nI_clamp (by omega))) ?_
        refine kc_i (wc := [(qm, .inr (9, [.int cd, .int (nI n), .ref qmr, .int fm, .int (nI cm), .ref qmc, .int (nI szv), .ref qmb, .int (nI btv), .int (nI dd), .ref qml])), (qml, .inl (cJ, 1024, .inr (.inl la)))]) (wr := [(qmr, .inl (cJ, 1024, .inr (.inl xs)))]) hP hD hS hA [0, 2] [1] rfl rfl (by decide) (by decide) (by decide) (fun hPc hDc => va_runV (As := [.long (xs k)]) (rest := []) ⟨hx, hb, hml, hown, hts⟩ (m_place l D cJ cB cI cF qm cd n qmr fm cm qmc szv qmb btv dd qml la (xs k) t _ (by omega) (ht)) (cwV 1 hts (wsG_k tw_665 (wsG_k tw_667 (wsG_k tp_w15 (wsG_k tw_10 (wsG_c tw_668))))) rfl rfl rfl (by decide +kernel) ⟨Nat.le_of_ble_eq_true rfl, Nat.le_of_ble_eq_true rfl⟩) ⟨cf_blind, va_recv hK hPc (ci := 9) (q0 := 0) rfl rfl, cf_pre hPc hK hDc hWd⟩ rfl rfl hl.1 rfl (lv_room (Nat.le_of_ble_eq_true rfl)) dMo_listAll_22 ⟨Nat.le_of_ble_eq_true rfl, Nat.le_of_ble_eq_true rfl⟩) (fun r u H locs hw hP hD hS => ?_)
        obtain ⟨rfl, -⟩ := hw
        have hP : va_P D vwCl [(qmr, .inl (cJ, 1024, .inr (.inl xs))), (qm, .inr (9, [.int cd, .int (nI n), .ref qmr, .int fm, .int (nI cm), .ref qmc, .int (nI szv), .ref qmb, .int (nI btv), .int (nI dd), .ref qml])), (qml, .inl (cJ, 1024, .inr (.inl la)))] H := hP
        have hD : va_D A [(qmr, .inl (cJ, 1024, .inr (.inl xs))), (qm, .inr (9, [.int cd, .int (nI n), .ref qmr, .int fm, .int (nI cm), .ref qmc, .int (nI szv), .ref qmb, .int (nI btv), .int (nI dd), .ref qml])), (qml, .inl (cJ, 1024, .inr (.inl la)))] := hD
        refine lv_istore_n (lv' := [(2, .int (nI t)), (0, .ref qm), (1, .int (nI k))]) hx hb dMo_listAll_25 rfl hl (by decide) rfl (fun ls hl => ?_)
        refine lv_iload_n hx hb dMo_listAll_26 rfl (lv_at hl 0 rfl) ?_
        refine lv_aload_n hx hb dMo_listAll_27 rfl (lv_at hl 1 rfl) ?_
        refine va_get (D := D) (ci := 9) (v := .int (nI dd)) (C := "ColumnFormsModel") (T := TMo) (N := 11) hx hb hts inMo hown hK hP 1 rfl rfl 9 (by decide) (hts _ tw_598) (fun _ h9 => h9) rfl dMo_listAll_28 ?_
        refine lv_icmp_eq (tgt := 50) hx hb dMo_listAll_31 (by decide) (fun c31 => ?_) (fun c31 => ?_)
        · have c31 : t = dd := (nI_eq (by omega) (by omega)).mp c31
          refine lv_aload_n hx hb dMo_listAll_50 rfl (lv_at hl 1 rfl) ?_
          refine va_get (D := D) (ci := 9) (v := .int (nI dd)) (C := "ColumnFormsModel") (T := TMo) (N := 11) hx hb hts inMo hown hK hP 1 rfl rfl 9 (by decide) (hts _ tw_598) (fun _ h9 => h9) rfl dMo_listAll_51 ?_
          refine lv_istore_n (lv' := [(3, .int (nI dd)), (2, .int (nI t)), (0, .ref qm), (1, .int (nI k))]) hx hb dMo_listAll_54 rfl hl (by decide) rfl (fun ls hl => ?_)
          have lpB : ∀ (k_lpB : Nat) (i : Nat) (lb : Nat → Int64), (t ≤ i) → (i ≤ dd) → (shP la lb dd i) → (i - t < k_lpB) → ∀ (H : Heap) (locs : List Loc) (ls : Array Slot), va_P D vwCl [(qm, .inr (9, [.int cd, .int (nI n), .ref qmr, .int fm, .int (nI cm), .ref qmc, .int (nI szv), .ref qmb, .int (nI btv), .int (nI dd), .ref qml])), (qmr, .inl (cJ, 1024, .inr (.inl xs))), (qml, .inl (cJ, 1024, .inr (.inl lb)))] H → va_D A [(qm, .inr (9, [.int cd, .int (nI n), .ref qmr, .int fm, .int (nI cm), .ref qmc, .int (nI szv), .ref qmb, .int (nI btv), .int (nI dd), .ref qml])), (qmr, .inl (cJ, 1024, .inr (.inl xs))), (qml, .inl (cJ, 1024, .inr (.inl lb)))] → va_S A s.heap H locs → lv_has ls 4 [(0, .ref qm), (1, .int (nI k)), (2, .int (nI t)), (3, .int (nI i))] → W p l e ({ frames := 1, cells := 0, slots := 0, locals := 23 }) s m ([.ref qm].toArray) below meth c H locs (0) (0) Q (F0 m 55 ls []) := by
            intro k_lpB
            induction k_lpB with
            | zero => intro i lb j1 j2 j3 hfu; exact absurd hfu (by omega)
            | succ k_lpB ih_lpB =>
              intro i lb j1 j2 j3 hfu H locs ls hP hD hS hl
              refine lv_iload_n hx hb dMo_listAll_55 rfl (lv_at hl 3 rfl) ?_
              refine lv_iload_n hx hb dMo_listAll_56 rfl (lv_at hl 2 rfl) ?_
              refine lv_icmp_le (tgt := 80) hx hb dMo_listAll_57 (by decide) (fun c57 => ?_) (fun c57 => ?_)
              · have c57 : i ≤ t := (nI_leI (by omega) (by omega)).mp c57
                have e9 : i = t := by omega
                rw [e9] at j3
                refine lv_aload_n hx hb dMo_listAll_80 rfl (lv_at hl 0 rfl) ?_
                refine va_get (D := D) (ci := 9) (v := .ref qml) (C := "ColumnFormsModel") (T := TMo) (N := 11) hx hb hts inMo hown hK hP 0 rfl rfl 10 (by decide) (hts _ tw_599) (fun _ h9 => h9) rfl dMo_listAll_81 ?_
                refine lv_iload_n hx hb dMo_listAll_84 rfl (lv_at hl 2 rfl) ?_
                refine lv_aload_n hx hb dMo_listAll_85 rfl (lv_at hl 0 rfl) ?_
                refine va_get (D := D) (ci := 9) (v := .ref qmr) (C := "ColumnFormsModel") (T := TMo) (N := 11) hx hb hts inMo hown hK hP 0 rfl rfl 2 (by decide) (hts _ tw_591) (fun _ h9 => h9) rfl dMo_listAll_86 ?_
                refine lv_iload_n hx hb dMo_listAll_89 rfl (lv_at hl 1 rfl) ?_
                refine va_lald hx hb hK hP 1 0 rfl rfl (vp_in_nI (by omega) (by omega)) dMo_listAll_90 ?_
                refine tp_l (show (xs (nI k).toNatClampNeg) = (xs k) from congrArg _ (nI_clamp (by omega))) ?_
                refine va_last hx hb hK hP hD hS 2 0 rfl rfl (vp_in_nI (by omega) (by omega)) dMo_listAll_91 (fun H locs hP hD hS => ?_)
                rw [nI_clamp (by omega)] at hP hD
                have hP : va_P D vwCl [(qm, .inr (9, [.int cd, .int (nI n), .ref qmr, .int fm, .int (nI cm), .ref qmc, .int (nI szv), .ref qmb, .int (nI btv), .int (nI dd), .ref qml])), (qmr, .inl (cJ, 1024, .inr (.inl xs))), (qml, .inl (cJ, 1024, .inr (.inl (vp_updL lb t (xs k)))))] H := hP
                have hD : va_D A [(qm, .inr (9, [.int cd, .int (nI n), .ref qmr, .int fm, .int (nI cm), .ref qmc, .int (nI szv), .ref qmb, .int (nI btv), .int (nI dd), .ref qml])), (qmr, .inl (cJ, 1024, .inr (.inl xs))), (qml, .inl (cJ, 1024, .inr (.inl (vp_updL lb t (xs k)))))] := hD
                refine lv_aload_n hx hb dMo_listAll_92 rfl (lv_at hl 0 rfl) ?_
                refine lv_dup hx hb dMo_listAll_93 rfl ?_
                refine va_get (D := D) (ci := 9) (v := .int (nI dd)) (C := "ColumnFormsModel") (T := TMo) (N := 11) hx hb hts inMo hown hK hP 0 rfl rfl 9 (by decide) (hts _ tw_598) (fun _ h9 => h9) rfl dMo_listAll_94 ?_
                refine lv_iconst (v := nI 1) hx hb dMo_listAll_97 (by decide) ?_
                refine lv_iadd hx hb dMo_listAll_98 ?_
                refine tp_i (show ((nI dd) + (nI 1)) = (nI (dd + 1)) from nI_add _ _) ?_
                refine va_put (D := D) (ci := 9) (v := .int (nI (dd + 1))) (ty := .int) (C := "ColumnFormsModel") (T := TMo) (N := 11) hx hb hts inMo tyMo tyMo_ok nmMo hown hK hP hD hS 0 rfl rfl 9 (by decide) (hts _ tw_598) (fun _ h9 => h9) rfl (by decide +kernel) rfl rfl (Nat.le_of_ble_eq_true rfl) dMo_listAll_99 (fun H locs hP hD hS => ?_)
                have hP : va_P D vwCl [(qm, .inr (9, [.int cd, .int (nI n), .ref qmr, .int fm, .int (nI cm), .ref qmc, .int (nI szv), .ref qmb, .int (nI btv), .int (nI (dd + 1)), .ref qml])), (qmr, .inl (cJ, 1024, .inr (.inl xs))), (qml, .inl (cJ, 1024, .inr (.inl (vp_updL lb t (xs k)))))] H := hP
                have hD : va_D A [(qm, .inr (9, [.int cd, .int (nI n), .ref qmr, .int fm, .int (nI cm), .ref qmc, .int (nI szv), .ref qmb, .int (nI btv), .int (nI (dd + 1)), .ref qml])), (qmr, .inl (cJ, 1024, .inr (.inl xs))), (qml, .inl (cJ, 1024, .inr (.inl (vp_updL lb t (xs k)))))] := hD
                refine lv_iinc (v := nI (k + 1)) (lv' := [(1, .int (nI (k + 1))), (0, .ref qm), (2, .int (nI t)), (3, .int (nI i))]) hx hb dMo_listAll_102 hl (k := 1) rfl (by rw [show (Int32.ofInt 1) = nI 1 from by decide]; exact nI_add _ _) (by decide) rfl (fun ls hl => ?_)
                refine lv_goto (tgt := 7) hx hb dMo_listAll_105 (by decide) ?_
                exact ih_lpA (k + 1) (dd + 1) (vp_updL lb t (xs k)) (by omega) (by rw [shP_e j3 ht1]; exact rInv_w g2 ht (fun h => absurd h.1 (by omega))) (by omega) _ _ _ (hP.sub [0, 1, 2] rfl) (hD.sub [0, 1, 2] (by decide) rfl) hS (lv_sub hl [1, 0] rfl)
              · have c57 : ¬ i ≤ t := fun h => c57 ((nI_leI (by omega) (by omega)).mpr h)
                refine lv_aload_n hx hb dMo_listAll_60 rfl (lv_at hl 0 rfl) ?_
                refine va_get (D := D) (ci := 9) (v := .ref qml) (C := "ColumnFormsModel") (T := TMo) (N := 11) hx hb hts inMo hown hK hP 0 rfl rfl 10 (by decide) (hts _ tw_599) (fun _ h9 => h9) rfl dMo_listAll_61 ?_
                refine lv_iload_n hx hb dMo_listAll_64 rfl (lv_at hl 3 rfl) ?_
                refine lv_aload_n hx hb dMo_listAll_65 rfl (lv_at hl 0 rfl) ?_
                refine va_get (D := D) (ci := 9) (v := .ref qml) (C := "ColumnFormsModel") (T := TMo) (N := 11) hx hb hts inMo hown hK hP 0 rfl rfl 10 (by decide) (hts _ tw_599) (fun _ h9 => h9) rfl dMo_listAll_66 ?_
                refine lv_iload_n hx hb dMo_listAll_69 rfl (lv_at hl 3 rfl) ?_
                refine lv_iconst (v := nI 1) hx hb dMo_listAll_70 (by decide) ?_
                refine lv_isub hx hb dMo_listAll_71 ?_
                refine tp_i (show ((nI i) - (nI 1)) = (nI (i - 1)) from pk_sub (by omega)) ?_
                refine va_lald hx hb hK hP 2 0 rfl rfl (vp_in_nI (by omega) (by omega)) dMo_listAll_72 ?_
                refine tp_l (show (lb (nI (i - 1)).toNatClampNeg) = (lb (i - 1)) from congrArg _ (nI_clamp (by omega))) ?_
                refine va_last hx hb hK hP hD hS 2 0 rfl rfl (vp_in_nI (by omega) (by omega)) dMo_listAll_73 (fun H locs hP hD hS => ?_)
                rw [nI_clamp (by omega)] at hP hD
                have hP : va_P D vwCl [(qm, .inr (9, [.int cd, .int (nI n), .ref qmr, .int fm, .int (nI cm), .ref qmc, .int (nI szv), .ref qmb, .int (nI btv), .int (nI dd), .ref qml])), (qmr, .inl (cJ, 1024, .inr (.inl xs))), (qml, .inl (cJ, 1024, .inr (.inl (vp_updL lb i (lb (i - 1))))))] H := hP
                have hD : va_D A [(qm, .inr (9, [.int cd, .int (nI n), .ref qmr, .int fm, .int (nI cm), .ref qmc, .int (nI szv), .ref qmb, .int (nI btv), .int (nI dd), .ref qml])), (qmr, .inl (cJ, 1024, .inr (.inl xs))), (qml, .inl (cJ, 1024, .inr (.inl (vp_updL lb i (lb (i - 1))))))] := hD
                refine lv_iinc (v := nI (i - 1)) (lv' := [(3, .int (nI (i - 1))), (0, .ref qm), (1, .int (nI k)), (2, .int (nI t))]) hx hb dMo_listAll_74 hl (k := 3) rfl (nI_dec (b := 1) (by omega) _ (by decide)) (by decide) rfl (fun ls hl => ?_)
                refine lv_goto (tgt := 55) hx hb dMo_listAll_77 (by decide) ?_
                exact ih_lpB (i - 1) (vp_updL lb i (lb (i - 1))) (by omega) (by omega) (shP_s j3 (by omega) j2) (by omega) _ _ _ (hP.sub [0, 1, 2] rfl) (hD.sub [0, 1, 2] (by decide) rfl) hS (lv_sub hl [1, 2, 3, 0] rfl)
          exact lpB (dd - t + 1) dd la (by omega) (Nat.le_refl dd) (shP_0 la dd) (by omega) _ _ _ (hP.sub [1, 0, 2] rfl) (hD.sub [1, 0, 2] (by decide) rfl) hS (lv_sub hl [2, 3, 1, 0] rfl)
        · have c31 : ¬ t = dd := fun h => c31 ((nI_eq (by omega) (by omega)).mpr h)
          refine lv_aload_n hx hb dMo_listAll_34 rfl (lv_at hl 1 rfl) ?_
          refine va_get (D := D) (ci := 9) (v := .ref qml) (C := "ColumnFormsModel") (T := TMo) (N := 11) hx hb hts inMo hown hK hP 1 rfl rfl 10 (by decide) (hts _ tw_599) (fun _ h9 => h9) rfl dMo_listAll_35 ?_
          refine lv_iload_n hx hb dMo_listAll_38 rfl (lv_at hl 0 rfl) ?_
          refine va_lald hx hb hK hP 2 0 rfl rfl (vp_in_nI (by omega) (by omega)) dMo_listAll_39 ?_
          refine tp_l (show (la (nI t).toNatClampNeg) = (la t) from congrArg _ (nI_clamp (by omega))) ?_
          refine lv_aload_n hx hb dMo_listAll_40 rfl (lv_at hl 1 rfl) ?_
          refine va_get (D := D) (ci := 9) (v := .ref qmr) (C := "ColumnFormsModel") (T := TMo) (N := 11) hx hb hts inMo hown hK hP 1 rfl rfl 2 (by decide) (hts _ tw_591) (fun _ h9 => h9) rfl dMo_listAll_41 ?_
          refine lv_iload_n hx hb dMo_listAll_44 rfl (lv_at hl 2 rfl) ?_
          refine va_lald hx hb hK hP 0 0 rfl rfl (vp_in_nI (by omega) (by omega)) dMo_listAll_45 ?_
          refine tp_l (show (xs (nI k).toNatClampNeg) = (xs k) from congrArg _ (nI_clamp (by omega))) ?_
          refine W.lcmp hx hb dMo_listAll_46 ?_
          refine lv_if_eq (tgt := 102) hx hb dMo_listAll_47 (by decide) (fun c47 => ?_) (fun c47 => ?_)
          · have c47 : (la t) = (xs k) := (lg_cmp_eq _ _).mp c47
            refine lv_iinc (v := nI (k + 1)) (lv' := [(1, .int (nI (k + 1))), (2, .int (nI t)), (0, .ref qm)]) hx hb dMo_listAll_102 hl (k := 2) rfl (by rw [show (Int32.ofInt 1) = nI 1 from by decide]; exact nI_add _ _) (by decide) rfl (fun ls hl => ?_)
            refine lv_goto (tgt := 7) hx hb dMo_listAll_105 (by decide) ?_
            exact ih_lpA (k + 1) dd la (by omega) (rInv_o g2 (by omega) c47) (by omega) _ _ _ (hP.sub [1, 0, 2] rfl) (hD.sub [1, 0, 2] (by decide) rfl) hS (lv_sub hl [2, 0] rfl)
          · have c47 : ¬ (la t) = (xs k) := fun h => c47 ((lg_cmp_eq _ _).mpr h)
            refine lv_aload_n hx hb dMo_listAll_50 rfl (lv_at hl 1 rfl) ?_
            refine va_get (D := D) (ci := 9) (v := .int (nI dd)) (C := "ColumnFormsModel") (T := TMo) (N := 11) hx hb hts inMo hown hK hP 1 rfl rfl 9 (by decide) (hts _ tw_598) (fun _ h9 => h9) rfl dMo_listAll_51 ?_
            refine lv_istore_n (lv' := [(3, .int (nI dd)), (2, .int (nI t)), (0, .ref qm), (1, .int (nI k))]) hx hb dMo_listAll_54 rfl hl (by decide) rfl (fun ls hl => ?_)
            have lpB : ∀ (k_lpB : Nat) (i : Nat) (lb : Nat → Int64), (t ≤ i) → (i ≤ dd) → (shP la lb dd i) → (i - t < k_lpB) → ∀ (H : Heap) (locs : List Loc) (ls : Array Slot), va_P D vwCl [(qm, .inr (9, [.int cd, .int (nI n), .ref qmr, .int fm, .int (nI cm), .ref qmc, .int (nI szv), .ref qmb, .int (nI btv), .int (nI dd), .ref qml])), (qmr, .inl (cJ, 1024, .inr (.inl xs))), (qml, .inl (cJ, 1024, .inr (.inl lb)))] H → va_D A [(qm, .inr (9, [.int cd, .int (nI n), .ref qmr, .int fm, .int (nI cm), .ref qmc, .int (nI szv), .ref qmb, .int (nI btv), .int (nI dd), .ref qml])), (qmr, .inl (cJ, 1024, .inr (.inl xs))), (qml, .inl (cJ, 1024, .inr (.inl lb)))] → va_S A s.heap H locs → lv_has ls 4 [(0, .ref qm), (1, .int (nI k)), (2, .int (nI t)), (3, .int (nI i))] → W p l e ({ frames := 1, cells := 0, slots := 0, locals := 23 }) s m ([.ref qm].toArray) below meth c H locs (0) (0) Q (F0 m 55 ls []) := by
              intro k_lpB
              induction k_lpB with
              | zero => intro i lb j1 j2 j3 hfu; exact absurd hfu (by omega)
              | succ k_lpB ih_lpB =>
                intro i lb j1 j2 j3 hfu H locs ls hP hD hS hl
                refine lv_iload_n hx hb dMo_listAll_55 rfl (lv_at hl 3 rfl) ?_
                refine lv_iload_n hx hb dMo_listAll_56 rfl (lv_at hl 2 rfl) ?_
                refine lv_icmp_le (tgt := 80) hx hb dMo_listAll_57 (by decide) (fun c57 => ?_) (fun c57 => ?_)
                · have c57 : i ≤ t := (nI_leI (by omega) (by omega)).mp c57
                  have e9 : i = t := by omega
                  rw [e9] at j3
                  refine lv_aload_n hx hb dMo_listAll_80 rfl (lv_at hl 0 rfl) ?_
                  refine va_get (D := D) (ci := 9) (v := .ref qml) (C := "ColumnFormsModel") (T := TMo) (N := 11) hx hb hts inMo hown hK hP 0 rfl rfl 10 (by decide) (hts _ tw_599) (fun _ h9 => h9) rfl dMo_listAll_81 ?_
                  refine lv_iload_n hx hb dMo_listAll_84 rfl (lv_at hl 2 rfl) ?_
                  refine lv_aload_n hx hb dMo_listAll_85 rfl (lv_at hl 0 rfl) ?_
                  refine va_get (D := D) (ci := 9) (v := .ref qmr) (C := "ColumnFormsModel") (T := TMo) (N := 11) hx hb hts inMo hown hK hP 0 rfl rfl 2 (by decide) (hts _ tw_591) (fun _ h9 => h9) rfl dMo_listAll_86 ?_
                  refine lv_iload_n hx hb dMo_listAll_89 rfl (lv_at hl 1 rfl) ?_
                  refine va_lald hx hb hK hP 1 0 rfl rfl (vp_in_nI (by omega) (by omega)) dMo_listAll_90 ?_
                  refine tp_l (show (xs (nI k).toNatClampNeg) = (xs k) from congrArg _ (nI_clamp (by omega))) ?_
                  refine va_last hx hb hK hP hD hS 2 0 rfl rfl (vp_in_nI (by omega) (by omega)) dMo_listAll_91 (fun H locs hP hD hS => ?_)
                  rw [nI_clamp (by omega)] at hP hD
                  have hP : va_P D vwCl [(qm, .inr (9, [.int cd, .int (nI n), .ref qmr, .int fm, .int (nI cm), .ref qmc, .int (nI szv), .ref qmb, .int (nI btv), .int (nI dd), .ref qml])), (qmr, .inl (cJ, 1024, .inr (.inl xs))), (qml, .inl (cJ, 1024, .inr (.inl (vp_updL lb t (xs k)))))] H := hP
                  have hD : va_D A [(qm, .inr (9, [.int cd, .int (nI n), .ref qmr, .int fm, .int (nI cm), .ref qmc, .int (nI szv), .ref qmb, .int (nI btv), .int (nI dd), .ref qml])), (qmr, .inl (cJ, 1024, .inr (.inl xs))), (qml, .inl (cJ, 1024, .inr (.inl (vp_updL lb t (xs k)))))] := hD
                  refine lv_aload_n hx hb dMo_listAll_92 rfl (lv_at hl 0 rfl) ?_
                  refine lv_dup hx hb dMo_listAll_93 rfl ?_
                  refine va_get (D := D) (ci := 9) (v := .int (nI dd)) (C := "ColumnFormsModel") (T := TMo) (N := 11) hx hb hts inMo hown hK hP 0 rfl rfl 9 (by decide) (hts _ tw_598) (fun _ h9 => h9) rfl dMo_listAll_94 ?_
                  refine lv_iconst (v := nI 1) hx hb dMo_listAll_97 (by decide) ?_
                  refine lv_iadd hx hb dMo_listAll_98 ?_
                  refine tp_i (show ((nI dd) + (nI 1)) = (nI (dd + 1)) from nI_add _ _) ?_
                  refine va_put (D := D) (ci := 9) (v := .int (nI (dd + 1))) (ty := .int) (C := "ColumnFormsModel") (T := TMo) (N := 11) hx hb hts inMo tyMo tyMo_ok nmMo hown hK hP hD hS 0 rfl rfl 9 (by decide) (hts _ tw_598) (fun _ h9 => h9) rfl (by decide +kernel) rfl rfl (Nat.le_of_ble_eq_true rfl) dMo_listAll_99 (fun H locs hP hD hS => ?_)
                  have hP : va_P D vwCl [(qm, .inr (9, [.int cd, .int (nI n), .ref qmr, .int fm, .int (nI cm), .ref qmc, .int (nI szv), .ref qmb, .int (nI btv), .int (nI (dd + 1)), .ref qml])), (qmr, .inl (cJ, 1024, .inr (.inl xs))), (qml, .inl (cJ, 1024, .inr (.inl (vp_updL lb t (xs k)))))] H := hP
                  have hD : va_D A [(qm, .inr (9, [.int cd, .int (nI n), .ref qmr, .int fm, .int (nI cm), .ref qmc, .int (nI szv), .ref qmb, .int (nI btv), .int (nI (dd + 1)), .ref qml])), (qmr, .inl (cJ, 1024, .inr (.inl xs))), (qml, .inl (cJ, 1024, .inr (.inl (vp_updL lb t (xs k)))))] := hD
                  refine lv_iinc (v := nI (k + 1)) (lv' := [(1, .int (nI (k + 1))), (0, .ref qm), (2, .int (nI t)), (3, .int (nI i))]) hx hb dMo_listAll_102 hl (k := 1) rfl (by rw [show (Int32.ofInt 1) = nI 1 from by decide]; exact nI_add _ _) (by decide) rfl (fun ls hl => ?_)
                  refine lv_goto (tgt := 7) hx hb dMo_listAll_105 (by decide) ?_
                  exact ih_lpA (k + 1) (dd + 1) (vp_updL lb t (xs k)) (by omega) (by rw [shP_e j3 ht1]; exact rInv_w g2 ht (fun h => c47 h.2)) (by omega) _ _ _ (hP.sub [0, 1, 2] rfl) (hD.sub [0, 1, 2] (by decide) rfl) hS (lv_sub hl [1, 0] rfl)
                · have c57 : ¬ i ≤ t := fun h => c57 ((nI_leI (by omega) (by omega)).mpr h)
                  refine lv_aload_n hx hb dMo_listAll_60 rfl (lv_at hl 0 rfl) ?_
                  refine va_get (D := D) (ci := 9) (v := .ref qml) (C := "ColumnFormsModel") (T := TMo) (N := 11) hx hb hts inMo hown hK hP 0 rfl rfl 10 (by decide) (hts _ tw_599) (fun _ h9 => h9) rfl dMo_listAll_61 ?_
                  refine lv_iload_n hx hb dMo_listAll_64 rfl (lv_at hl 3 rfl) ?_
                  refine lv_aload_n hx hb dMo_listAll_65 rfl (lv_at hl 0 rfl) ?_
                  refine va_get (D := D) (ci := 9) (v := .ref qml) (C := "ColumnFormsModel") (T := TMo) (N := 11) hx hb hts inMo hown hK hP 0 rfl rfl 10 (by decide) (hts _ tw_599) (fun _ h9 => h9) rfl dMo_listAll_66 ?_
                  refine lv_iload_n hx hb dMo_listAll_69 rfl (lv_at hl 3 rfl) ?_
                  refine lv_iconst (v := nI 1) hx hb dMo_listAll_70 (by decide) ?_
                  refine lv_isub hx hb dMo_listAll_71 ?_
                  refine tp_i (show ((nI i) - (nI 1)) = (nI (i - 1)) from pk_sub (by omega)) ?_
                  refine va_lald hx hb hK hP 2 0 rfl rfl (vp_in_nI (by omega) (by omega)) dMo_listAll_72 ?_
                  refine tp_l (show (lb (nI (i - 1)).toNatClampNeg) = (lb (i - 1)) from congrArg _ (nI_clamp (by omega))) ?_
                  refine va_last hx hb hK hP hD hS 2 0 rfl rfl (vp_in_nI (by omega) (by omega)) dMo_listAll_73 (fun H locs hP hD hS => ?_)
                  rw [nI_clamp (by omega)] at hP hD
                  have hP : va_P D vwCl [(qm, .inr (9, [.int cd, .int (nI n), .ref qmr, .int fm, .int (nI cm), .ref qmc, .int (nI szv), .ref qmb, .int (nI btv), .int (nI dd), .ref qml])), (qmr, .inl (cJ, 1024, .inr (.inl xs))), (qml, .inl (cJ, 1024, .inr (.inl (vp_updL lb i (lb (i - 1))))))] H := hP
                  have hD : va_D A [(qm, .inr (9, [.int cd, .int (nI n), .ref qmr, .int fm, .int (nI cm), .ref qmc, .int (nI szv), .ref qmb, .int (nI btv), .int (nI dd), .ref qml])), (qmr, .inl (cJ, 1024, .inr (.inl xs))), (qml, .inl (cJ, 1024, .inr (.inl (vp_updL lb i (lb (i - 1))))))] := hD
                  refine lv_iinc (v := nI (i - 1)) (lv' := [(3, .int (nI (i - 1))), (0, .ref qm), (1, .int (nI k)), (2, .int (nI t))]) hx hb dMo_listAll_74 hl (k := 3) rfl (nI_dec (b := 1) (by omega) _ (by decide)) (by decide) rfl (fun ls hl => ?_)
                  refine lv_goto (tgt := 55) hx hb dMo_listAll_77 (by decide) ?_
                  exact ih_lpB (i - 1) (vp_updL lb i (lb (i - 1))) (by omega) (by omega) (shP_s j3 (by omega) j2) (by omega) _ _ _ (hP.sub [0, 1, 2] rfl) (hD.sub [0, 1, 2] (by decide) rfl) hS (lv_sub hl [1, 2, 3, 0] rfl)
            exact lpB (dd - t + 1) dd la (by omega) (Nat.le_refl dd) (shP_0 la dd) (by omega) _ _ _ (hP.sub [1, 0, 2] rfl) (hD.sub [1, 0, 2] (by decide) rfl) hS (lv_sub hl [2, 3, 1, 0] rfl)
  exact lpA (n - 0 + 1) 0 0 lm (Nat.zero_le n) (rInv_0 xs lm) (by omega) _ _ _ (hP.sub [0, 1, 2] rfl) (hD.sub [0, 1, 2] (by decide) rfl) hS (lv_sub hl [1, 0] rfl)

set_option maxHeartbeats 4000000 in
set_option maxRecDepth 100000 in
theorem m_whole (l : Launch) (D : va_G) (cJ cB cI cF : ClassId) (k : Nat) (sz : Nat) (hk : k ≤ 2000000) : Met l yMo_whole (Cond.code yMo_whole cMo_whole 1 (some .int) :: wsG) ({ frames := 0, cells := 0, slots := 0, locals := 0 }) (va_Pc [.int (nI k)] (cfPre D (cfT cJ cB cI cF) [] sz)) (va_Qi (fun (r : Int32) (u : Unit) => r = nI ((k + 7) / 8) ∧ True) (fun u t => cfPost D ((fun (u : Unit) => []) u) (va_A [] sz) t) (va_A [] sz)) 0 0 (va_A [] sz) := by
  refine met_i (cc := cMo_whole) (maxL := 1) (S := Unit) (D := D) (wO := fun (u : Unit) => []) (by decide) (Nat.le_of_ble_eq_true rfl) ?_
  intro p e s m below meth c hx hb hml hown hts hlocks hin hWd A hA hsz hP hK hD hS Q hret ls hl
  have hown : s.vm.findClass "ColumnFormsModel" = some m.cls := hown
  have hl : lv_has ls 1 [(0, .int (nI k))] := hl
  have hP : va_P D vwCl [] s.heap := hP
  refine lv_iload_n hx hb dMo_whole_0 rfl (lv_at hl 0 rfl) ?_
  refine lv_bipush (v := nI 7) hx hb dMo_whole_1 (by decide) ?_
  refine lv_iadd hx hb dMo_whole_3 ?_
  refine tp_i (show ((nI k) + (nI 7)) = (nI (k + 7)) from nI_add _ _) ?_
  refine lv_bipush (v := nI 8) hx hb dMo_whole_4 (by decide) ?_
  refine lv_idiv hx hb dMo_whole_6 (by decide) ?_
  refine tp_i (show ((nI (k + 7)) / (nI 8)) = (nI ((k + 7) / 8)) from pk_div (by omega) (by omega) (by omega)) ?_
  exact hret (nI ((k + 7) / 8)) () _ _ _ _ _ _ ⟨rfl, trivial⟩ (hP.sub [] rfl) (hD.sub [] (by decide) rfl) hS (Nat.le_of_ble_eq_true rfl) (Nat.le_of_ble_eq_true rfl) dMo_whole_7

set_option maxHeartbeats 4000000 in
set_option maxRecDepth 100000 in
theorem m_weigh_0 (l : Launch) (D : va_G) (cJ cB cI cF : ClassId) (qm : Nat) (cd : Int32) (n : Nat) (qmr : Nat) (fm : Int32) (cm : Nat) (qmc : Nat) (szv : Nat) (qmb : Nat) (btv : Nat) (dm : Nat) (qml : Nat) (xs : Nat → Int64) (lm : Nat → Int64) (rs : Nat → Int64) (d : Nat) (sz : Nat) (hn0 : 0 < n) (hn : n ≤ 1024) (hI : rInv xs n rs d) : Met l yMo_weigh (Cond.code yMo_weigh cMo_weigh 2 (some .int) :: wsG) ({ frames := 4, cells := 0, slots := 0, locals := 110 }) (va_Pc [.ref qm, .int (nI 0)] (cfPre D (cfT cJ cB cI cF) [(qm, .inr (9, [.int cd, .int (nI n), .ref qmr, .int fm, .int (nI cm), .ref qmc, .int (nI szv), .ref qmb, .int (nI btv), .int (nI dm), .ref qml])), (qmr, .inl (cJ, 1024, .inr (.inl xs))), (qml, .inl (cJ, 1024, .inr (.inl lm)))] sz)) (va_Qi (fun (r : Int32) (u : Nat × (Nat → Int64)) => r = nI (wGt n d (rRn xs n) (rLo xs n) (rHi xs n) (sLo xs n) (sHi xs n) 0) ∧ True) (fun u t => cfPost D ((fun (u : Nat × (Nat → Int64)) => [(qm, .inr (9, [.int cd, .int (nI n), .ref qmr, .int fm, .int (nI cm), .ref qmc, .int (nI szv), .ref qmb, .int (nI btv), .int (nI u.1), .ref qml])), (qmr, .inl (cJ, 1024, .inr (.inl xs))), (qml, .inl (cJ, 1024, .inr (.inl u.2)))]) u) (va_A [(qm, .inr (9, [.int cd, .int (nI n), .ref qmr, .int fm, .int (nI cm), .ref qmc, .int (nI szv), .ref qmb, .int (nI btv), .int (nI dm), .ref qml])), (qmr, .inl (cJ, 1024, .inr (.inl xs))), (qml, .inl (cJ, 1024, .inr (.inl lm)))] sz) t) (va_A [(qm, .inr (9, [.int cd, .int (nI n), .ref qmr, .int fm, .int (nI cm), .ref qmc, .int (nI szv), .ref qmb, .int (nI btv), .int (nI dm), .ref qml])), (qmr, .inl (cJ, 1024, .inr (.inl xs))), (qml, .inl (cJ, 1024, .inr (.inl lm)))] sz)) 0 0 (va_A [(qm, .inr (9, [.int cd, .int (nI n), .ref qmr, .int fm, .int (nI cm), .ref qmc, .int (nI szv), .ref qmb, .int (nI btv), .int (nI dm), .ref qml])), (qmr, .inl (cJ, 1024, .inr (.inl xs))), (qml, .inl (cJ, 1024, .inr (.inl lm)))] sz) := by
  refine met_i (cc := cMo_weigh) (maxL := 2) (S := Nat × (Nat → Int64)) (D := D) (wO := fun (u : Nat × (Nat → Int64)) => [(qm, .inr (9, [.int cd, .int (nI n), .ref qmr, .int fm, .int (nI cm), .ref qmc, .int (nI szv), .ref qmb, .int (nI btv), .int (nI u.1), .ref qml])), (qmr, .inl (cJ, 1024, .inr (.inl xs))), (qml, .inl (cJ, 1024, .inr (.inl u.2)))]) (by decide) (Nat.le_of_ble_eq_true rfl) ?_
  intro p e s m below meth c hx hb hml hown hts hlocks hin hWd A hA hsz hP hK hD hS Q hret ls hl
  have hown : s.vm.findClass "ColumnFormsModel" = some m.cls := hown
  have hl : lv_has ls 2 [(0, .ref qm), (1, .int (nI 0))] := hl
  have hP : va_P D vwCl [(qm, .inr (9, [.int cd, .int (nI n), .ref qmr, .int fm, .int (nI cm), .ref qmc, .int (nI szv), .ref qmb, .int (nI btv), .int (nI dm), .ref qml])), (qmr, .inl (cJ, 1024, .inr (.inl xs))), (qml, .inl (cJ, 1024, .inr (.inl lm)))] s.heap := hP
  have hm1 : n * bln (uN (rHi xs n - rLo xs n)) ≤ 1024 * 64 := Nat.mul_le_mul hn (bln64 _)
  have hm3 : (n - 1) * bln (uN (sHi xs n - sLo xs n)) ≤ 1024 * 64 := Nat.mul_le_mul (by omega) (bln64 _)
  refine lv_iload_n hx hb dMo_weigh_0 rfl (lv_at hl 1 rfl) ?_
  refine lv_tableIn (x := nI 0) (tgt := 32) hx hb dMo_weigh_1 (by decide) (by decide) rfl (by decide) ?_
  refine lv_bipush (v := nI 8) hx hb dMo_weigh_32 (by decide) ?_
  refine lv_aload_n hx hb dMo_weigh_34 rfl (lv_at hl 0 rfl) ?_
  refine va_get (D := D) (ci := 9) (v := .int (nI n)) (C := "ColumnFormsModel") (T := TMo) (N := 11) hx hb hts inMo hown hK hP 0 rfl rfl 1 (by decide) (hts _ tw_590) (fun _ h9 => h9) rfl dMo_weigh_35 ?_
  refine lv_imul hx hb dMo_weigh_38 ?_
  refine tp_i (show ((nI 8) * (nI n)) = (nI (8 * n)) from pk_mul _ _) ?_
  exact hret (nI (8 * n)) (dm, lm) _ _ _ _ _ _ ⟨rfl, trivial⟩ (hP.sub [0, 1, 2] rfl) (hD.sub [0, 1, 2] (by decide) rfl) hS (Nat.le_of_ble_eq_true rfl) (Nat.le_of_ble_eq_true rfl) dMo_weigh_39

set_option maxHeartbeats 4000000 in
set_option maxRecDepth 100000 in
theorem m_weigh_1 (l : Launch) (D : va_G) (cJ cB cI cF : ClassId) (qm : Nat) (cd : Int32) (n : Nat) (qmr : Nat) (fm : Int32) (cm : Nat) (qmc : Nat) (szv : Nat) (qmb : Nat) (btv : Nat) (dm : Nat) (qml : Nat) (xs : Nat → Int64) (lm : Nat → Int64) (rs : Nat → Int64) (d : Nat) (sz : Nat) (hn0 : 0 < n) (hn : n ≤ 1024) (hI : rInv xs n rs d) : Met l yMo_weigh (Cond.code yMo_weigh cMo_weigh 2 (some .int) :: wsG) ({ frames := 4, cells := 0, slots := 0, locals := 110 }) (va_Pc [.ref qm, .int (nI 1)] (cfPre D (cfT cJ cB cI cF) [(qm, .inr (9, [.int cd, .int (nI n), .ref qmr, .int fm, .int (nI cm), .ref qmc, .int (nI szv), .ref qmb, .int (nI btv), .int (nI dm), .ref qml])), (qmr, .inl (cJ, 1024, .inr (.inl xs))), (qml, .inl (cJ, 1024, .inr (.inl lm)))] sz)) (va_Qi (fun (r : Int32) (u : Nat × (Nat → Int64)) => r = nI (wGt n d (rRn xs n) (rLo xs n) (rHi xs n) (sLo xs n) (sHi xs n) 1) ∧ True) (fun u t => cfPost D ((fun (u : Nat × (Nat → Int64)) => [(qm, .inr (9, [.int cd, .int (nI n), .ref qmr, .int fm, .int (nI cm), .ref qmc, .int (nI szv), .ref qmb, .int (nI btv), .int (nI u.1), .ref qml])), (qmr, .inl (cJ, 1024, .inr (.inl xs))), (qml, .inl (cJ, 1024, .inr (.inl u.2)))]) u) (va_A [(qm, .inr (9, [.int cd, .int (nI n), .ref qmr, .int fm, .int (nI cm), .ref qmc, .int (nI szv), .ref qmb, .int (nI btv), .int (nI dm), .ref qml])), (qmr, .inl (cJ, 1024, .inr (.inl xs))), (qml, .inl (cJ, 1024, .inr (.inl lm)))] sz) t) (va_A [(qm, .inr (9, [.int cd, .int (nI n), .ref qmr, .int fm, .int (nI cm), .ref qmc, .int (nI szv), .ref qmb, .int (nI btv), .int (nI dm), .ref qml])), (qmr, .inl (cJ, 1024, .inr (.inl xs))), (qml, .inl (cJ, 1024, .inr (.inl lm)))] sz)) 0 0 (va_A [(qm, .inr (9, [.int cd, .int (nI n), .ref qmr, .int fm, .int (nI cm), .ref qmc, .int (nI szv), .ref qmb, .int (nI btv), .int (nI dm), .ref qml])), (qmr, .inl (cJ, 1024, .inr (.inl xs))), (qml, .inl (cJ, 1024, .inr (.inl lm)))] sz) := by
  refine met_i (cc := cMo_weigh) (maxL := 2) (S := Nat × (Nat → Int64)) (D := D) (wO := fun (u : Nat × (Nat → Int64)) => [(qm, .inr (9, [.int cd, .int (nI n), .ref qmr, .int fm, .int (nI cm), .ref qmc, .int (nI szv), .ref qmb, .int (nI btv), .int (nI u.1), .ref qml])), (qmr, .inl (cJ, 1024, .inr (.inl xs))), (qml, .inl (cJ, 1024, .inr (.inl u.2)))]) (by decide) (Nat.le_of_ble_eq_true rfl) ?_
  intro p e s m below meth c hx hb hml hown hts hlocks hin hWd A hA hsz hP hK hD hS Q hret ls hl
  have hown : s.vm.findClass "ColumnFormsModel" = some m.cls := hown
  have hl : lv_has ls 2 [(0, .ref qm), (1, .int (nI 1))] := hl
  have hP : va_P D vwCl [(qm, .inr (9, [.int cd, .int (nI n), .ref qmr, .int fm, .int (nI cm), .ref qmc, .int (nI szv), .ref qmb, .int (nI btv), .int (nI dm), .ref qml])), (qmr, .inl (cJ, 1024, .inr (.inl xs))), (qml, .inl (cJ, 1024, .inr (.inl lm)))] s.heap := hP
  have hm1 : n * bln (uN (rHi xs n - rLo xs n)) ≤ 1024 * 64 := Nat.mul_le_mul hn (bln64 _)
  have hm3 : (n - 1) * bln (uN (sHi xs n - sLo xs n)) ≤ 1024 * 64 := Nat.mul_le_mul (by omega) (bln64 _)
  refine lv_iload_n hx hb dMo_weigh_0 rfl (lv_at hl 1 rfl) ?_
  refine lv_tableIn (x := nI 1) (tgt := 40) hx hb dMo_weigh_1 (by decide) (by decide) rfl (by decide) ?_
  refine lv_bipush (v := nI 9) hx hb dMo_weigh_40 (by decide) ?_
  refine lv_aload_n hx hb dMo_weigh_42 rfl (lv_at hl 0 rfl) ?_
  refine va_get (D := D) (ci := 9) (v := .int (nI n)) (C := "ColumnFormsModel") (T := TMo) (N := 11) hx hb hts inMo hown hK hP 0 rfl rfl 1 (by decide) (hts _ tw_590) (fun _ h9 => h9) rfl dMo_weigh_43 ?_
  refine lv_aload_n hx hb dMo_weigh_46 rfl (lv_at hl 0 rfl) ?_
  refine kc_l (wc := [(qm, .inr (9, [.int cd, .int (nI n), .ref qmr, .int fm, .int (nI cm), .ref qmc, .int (nI szv), .ref qmb, .int (nI btv), .int (nI dm), .ref qml])), (qmr, .inl (cJ, 1024, .inr (.inl xs)))]) (wr := [(qml, .inl (cJ, 1024, .inr (.inl lm)))]) hP hD hS hA [0, 1] [2] rfl rfl (by decide) (by decide) (by decide) (fun hPc hDc => va_runV (As := []) (rest := [.int (nI n), .int (nI 9)]) ⟨hx, hb, hml, hown, hts⟩ (m_great l D cJ cB cI cF qm cd n qmr fm cm qmc szv qmb btv dm qml xs _ (hn0) (hn)) (cwV 0 hts (wsG_k tw_647 (wsG_k tw_649 (wsG_k tp_w12 (wsG_k tw_10 (wsG_c tw_650))))) rfl rfl rfl (by decide +kernel) ⟨Nat.le_of_ble_eq_true rfl, Nat.le_of_ble_eq_true rfl⟩) ⟨cf_blind, va_recv hK hPc (ci := 9) (q0 := 0) rfl rfl, cf_pre hPc hK hDc hWd⟩ rfl rfl hl.1 rfl (lv_room (Nat.le_of_ble_eq_true rfl)) dMo_weigh_47 ⟨Nat.le_of_ble_eq_true rfl, Nat.le_of_ble_eq_true rfl⟩) (fun r u H locs hw hP hD hS => ?_)
  obtain ⟨rfl, -⟩ := hw
  have hP : va_P D vwCl [(qml, .inl (cJ, 1024, .inr (.inl lm))), (qm, .inr (9, [.int cd, .int (nI n), .ref qmr, .int fm, .int (nI cm), .ref qmc, .int (nI szv), .ref qmb, .int (nI btv), .int (nI dm), .ref qml])), (qmr, .inl (cJ, 1024, .inr (.inl xs)))] H := hP
  have hD : va_D A [(qml, .inl (cJ, 1024, .inr (.inl lm))), (qm, .inr (9, [.int cd, .int (nI n), .ref qmr, .int fm, .int (nI cm), .ref qmc, .int (nI szv), .ref qmb, .int (nI btv), .int (nI dm), .ref qml])), (qmr, .inl (cJ, 1024, .inr (.inl xs)))] := hD
  refine lv_aload_n hx hb dMo_weigh_50 rfl (lv_at hl 0 rfl) ?_
  refine kc_l (wc := [(qm, .inr (9, [.int cd, .int (nI n), .ref qmr, .int fm, .int (nI cm), .ref qmc, .int (nI szv), .ref qmb, .int (nI btv), .int (nI dm), .ref qml])), (qmr, .inl (cJ, 1024, .inr (.inl xs)))]) (wr := [(qml, .inl (cJ, 1024, .inr (.inl lm)))]) hP hD hS hA [1, 2] [0] rfl rfl (by decide) (by decide) (by decide) (fun hPc hDc => va_runV (As := []) (rest := [.long (rHi xs n), .int (nI n), .int (nI 9)]) ⟨hx, hb, hml, hown, hts⟩ (m_least l D cJ cB cI cF qm cd n qmr fm cm qmc szv qmb btv dm qml xs _ (hn0) (hn)) (cwV 0 hts (wsG_k tw_651 (wsG_k tw_653 (wsG_k tp_w13 (wsG_k tw_10 (wsG_c tw_654))))) rfl rfl rfl (by decide +kernel) ⟨Nat.le_of_ble_eq_true rfl, Nat.le_of_ble_eq_true rfl⟩) ⟨cf_blind, va_recv hK hPc (ci := 9) (q0 := 0) rfl rfl, cf_pre hPc hK hDc hWd⟩ rfl rfl hl.1 rfl (lv_room (Nat.le_of_ble_eq_true rfl)) dMo_weigh_51 ⟨Nat.le_of_ble_eq_true rfl, Nat.le_of_ble_eq_true rfl⟩) (fun r u H locs hw hP hD hS => ?_)
  obtain ⟨rfl, -⟩ := hw
  have hP : va_P D vwCl [(qml, .inl (cJ, 1024, .inr (.inl lm))), (qm, .inr (9, [.int cd, .int (nI n), .ref qmr, .int fm, .int (nI cm), .ref qmc, .int (nI szv), .ref qmb, .int (nI btv), .int (nI dm), .ref qml])), (qmr, .inl (cJ, 1024, .inr (.inl xs)))] H := hP
  have hD : va_D A [(qml, .inl (cJ, 1024, .inr (.inl lm))), (qm, .inr (9, [.int cd, .int (nI n), .ref qmr, .int fm, .int (nI cm), .ref qmc, .int (nI szv), .ref qmb, .int (nI btv), .int (nI dm), .ref qml])), (qmr, .inl (cJ, 1024, .inr (.inl xs)))] := hD
  refine lv_lsub hx hb dMo_weigh_54 ?_
  refine kc_i (wc := []) (wr := [(qml, .inl (cJ, 1024, .inr (.inl lm))), (qm, .inr (9, [.int cd, .int (nI n), .ref qmr, .int fm, .int (nI cm), .ref qmc, .int (nI szv), .ref qmb, .int (nI btv), .int (nI dm), .ref qml])), (qmr, .inl (cJ, 1024, .inr (.inl xs)))]) hP hD hS hA [] [0, 1, 2] rfl rfl (by decide) (by decide) (by decide) (fun hPc hDc => va_runS (As := [.long ((rHi xs n) - (rLo xs n))]) (rest := [.int (nI n), .int (nI 9)]) ⟨hx, hb, hml, hown, hts⟩ (m_digits l D cJ cB cI cF ((rHi xs n) - (rLo xs n)) _) (va_cwS 1 hts (wsG_k tw_655 (wsG_k tw_656 (wsG_k tw_10 (wsG_c tw_657)))) rfl rfl rfl (by decide +kernel) ⟨Nat.le_of_ble_eq_true rfl, Nat.le_of_ble_eq_true rfl⟩) ⟨cf_blind, cf_pre hPc hK hDc hWd⟩ rfl rfl hl.1 rfl (lv_room (Nat.le_of_ble_eq_true rfl)) dMo_weigh_55 ⟨Nat.le_of_ble_eq_true rfl, Nat.le_of_ble_eq_true rfl⟩) (fun r u H locs hw hP hD hS => ?_)
  obtain ⟨rfl, -⟩ := hw
  have hP : va_P D vwCl [(qml, .inl (cJ, 1024, .inr (.inl lm))), (qm, .inr (9, [.int cd, .int (nI n), .ref qmr, .int fm, .int (nI cm), .ref qmc, .int (nI szv), .ref qmb, .int (nI btv), .int (nI dm), .ref qml])), (qmr, .inl (cJ, 1024, .inr (.inl xs)))] H := hP
  have hD : va_D A [(qml, .inl (cJ, 1024, .inr (.inl lm))), (qm, .inr (9, [.int cd, .int (nI n), .ref qmr, .int fm, .int (nI cm), .ref qmc, .int (nI szv), .ref qmb, .int (nI btv), .int (nI dm), .ref qml])), (qmr, .inl (cJ, 1024, .inr (.inl xs)))] := hD
  refine lv_imul hx hb dMo_weigh_58 ?_
  refine tp_i (show ((nI n) * (nI (bln (uN ((rHi xs n) - (rLo xs n)))))) = (nI (n * (bln (uN ((rHi xs n) - (rLo xs n)))))) from pk_mul _ _) ?_
  refine kc_i (wc := []) (wr := [(qml, .inl (cJ, 1024, .inr (.inl lm))), (qm, .inr (9, [.int cd, .int (nI n), .ref qmr, .int fm, .int (nI cm), .ref qmc, .int (nI szv), .ref qmb, .int (nI btv), .int (nI dm), .ref qml])), (qmr, .inl (cJ, 1024, .inr (.inl xs)))]) hP hD hS hA [] [0, 1, 2] rfl rfl (by decide) (by decide) (by decide) (fun hPc hDc => va_runS (As := [.int (nI (n * (bln (uN ((rHi xs n) - (rLo xs n))))))]) (rest := [.int (nI 9)]) ⟨hx, hb, hml, hown, hts⟩ (m_whole l D cJ cB cI cF (n * (bln (uN ((rHi xs n) - (rLo xs n))))) _ (by omega)) (va_cwS 1 hts (wsG_k tw_658 (wsG_k tw_659 (wsG_k tw_10 (wsG_c tw_660)))) rfl rfl rfl (by decide +kernel) ⟨Nat.le_of_ble_eq_true rfl, Nat.le_of_ble_eq_true rfl⟩) ⟨cf_blind, cf_pre hPc hK hDc hWd⟩ rfl rfl hl.1 rfl (lv_room (Nat.le_of_ble_eq_true rfl)) dMo_weigh_59 ⟨Nat.le_of_ble_eq_true rfl, Nat.le_of_ble_eq_true rfl⟩) (fun r u H locs hw hP hD hS => ?_)
  obtain ⟨rfl, -⟩ := hw
  have hP : va_P D vwCl [(qml, .inl (cJ, 1024, .inr (.inl lm))), (qm, .inr (9, [.int cd, .int (nI n), .ref qmr, .int fm, .int (nI cm), .ref qmc, .int (nI szv), .ref qmb, .int (nI btv), .int (nI dm), .ref qml])), (qmr, .inl (cJ, 1024, .inr (.inl xs)))] H := hP
  have hD : va_D A [(qml, .inl (cJ, 1024, .inr (.inl lm))), (qm, .inr (9, [.int cd, .int (nI n), .ref qmr, .int fm, .int (nI cm), .ref qmc, .int (nI szv), .ref qmb, .int (nI btv), .int (nI dm), .ref qml])), (qmr, .inl (cJ, 1024, .inr (.inl xs)))] := hD
  refine lv_iadd hx hb dMo_weigh_62 ?_
  refine tp_i (show ((nI 9) + (nI (((n * (bln (uN ((rHi xs n) - (rLo xs n))))) + 7) / 8))) = (nI (9 + (((n * (bln (uN ((rHi xs n) - (rLo xs n))))) + 7) / 8))) from nI_add _ _) ?_
  exact hret (nI (9 + (((n * (bln (uN ((rHi xs n) - (rLo xs n))))) + 7) / 8))) (dm, lm) _ _ _ _ _ _ ⟨congrArg nI (by show _ = (72 + n * bln (uN (rHi xs n - rLo xs n)) + 7) / 8; omega), trivial⟩ (hP.sub [1, 2, 0] rfl) (hD.sub [1, 2, 0] (by decide) rfl) hS (Nat.le_of_ble_eq_true rfl) (Nat.le_of_ble_eq_true rfl) dMo_weigh_63

set_option maxHeartbeats 4000000 in
set_option maxRecDepth 100000 in
theorem m_weigh_2 (l : Launch) (D : va_G) (cJ cB cI cF : ClassId) (qm : Nat) (cd : Int32) (n : Nat) (qmr : Nat) (fm : Int32) (cm : Nat) (qmc : Nat) (szv : Nat) (qmb : Nat) (btv : Nat) (dm : Nat) (qml : Nat) (xs : Nat → Int64) (lm : Nat → Int64) (rs : Nat → Int64) (d : Nat) (sz : Nat) (hn0 : 0 < n) (hn : n ≤ 1024) (hI : rInv xs n rs d) : Met l yMo_weigh (Cond.code yMo_weigh cMo_weigh 2 (some .int) :: wsG) ({ frames := 4, cells := 0, slots := 0, locals := 110 }) (va_Pc [.ref qm, .int (nI 2)] (cfPre D (cfT cJ cB cI cF) [(qm, .inr (9, [.int cd, .int (nI n), .ref qmr, .int fm, .int (nI cm), .ref qmc, .int (nI szv), .ref qmb, .int (nI btv), .int (nI dm), .ref qml])), (qmr, .inl (cJ, 1024, .inr (.inl xs))), (qml, .inl (cJ, 1024, .inr (.inl lm)))] sz)) (va_Qi (fun (r : Int32) (u : Nat × (Nat → Int64)) => r = nI (wGt n d (rRn xs n) (rLo xs n) (rHi xs n) (sLo xs n) (sHi xs n) 2) ∧ True) (fun u t => cfPost D ((fun (u : Nat × (Nat → Int64)) => [(qm, .inr (9, [.int cd, .int (nI n), .ref qmr, .int fm, .int (nI cm), .ref qmc, .int (nI szv), .ref qmb, .int (nI btv), .int (nI u.1), .ref qml])), (qmr, .inl (cJ, 1024, .inr (.inl xs))), (qml, .inl (cJ, 1024, .inr (.inl u.2)))]) u) (va_A [(qm, .inr (9, [.int cd, .int (nI n), .ref qmr, .int fm, .int (nI cm), .ref qmc, .int (nI szv), .ref qmb, .int (nI btv), .int (nI dm), .ref qml])), (qmr, .inl (cJ, 1024, .inr (.inl xs))), (qml, .inl (cJ, 1024, .inr (.inl lm)))] sz) t) (va_A [(qm, .inr (9, [.int cd, .int (nI n), .ref qmr, .int fm, .int (nI cm), .ref qmc, .int (nI szv), .ref qmb, .int (nI btv), .int (nI dm), .ref qml])), (qmr, .inl (cJ, 1024, .inr (.inl xs))), (qml, .inl (cJ, 1024, .inr (.inl lm)))] sz)) 0 0 (va_A [(qm, .inr (9, [.int cd, .int (nI n), .ref qmr, .int fm, .int (nI cm), .ref qmc, .int (nI szv), .ref qmb, .int (nI btv), .int (nI dm), .ref qml])), (qmr, .inl (cJ, 1024, .inr (.inl xs))), (qml, .inl (cJ, 1024, .inr (.inl lm)))] sz) := by
  refine met_i (cc := cMo_weigh) (maxL := 2) (S := Nat × (Nat → Int64)) (D := D) (wO := fun (u : Nat × (Nat → Int64)) => [(qm, .inr (9, [.int cd, .int (nI n), .ref qmr, .int fm, .int (nI cm), .ref qmc, .int (nI szv), .ref qmb, .int (nI btv), .int (nI u.1), .ref qml])), (qmr, .inl (cJ, 1024, .inr (.inl xs))), (qml, .inl (cJ, 1024, .inr (.inl u.2)))]) (by decide) (Nat.le_of_ble_eq_true rfl) ?_
  intro p e s m below meth c hx hb hml hown hts hlocks hin hWd A hA hsz hP hK hD hS Q hret ls hl
  have hown : s.vm.findClass "ColumnFormsModel" = some m.cls := hown
  have hl : lv_has ls 2 [(0, .ref qm), (1, .int (nI 2))] := hl
  have hP : va_P D vwCl [(qm, .inr (9, [.int cd, .int (nI n), .ref qmr, .int fm, .int (nI cm), .ref qmc, .int (nI szv), .ref qmb, .int (nI btv), .int (nI dm), .ref qml])), (qmr, .inl (cJ, 1024, .inr (.inl xs))), (qml, .inl (cJ, 1024, .inr (.inl lm)))] s.heap := hP
  have hm1 : n * bln (uN (rHi xs n - rLo xs n)) ≤ 1024 * 64 := Nat.mul_le_mul hn (bln64 _)
  have hm3 : (n - 1) * bln (uN (sHi xs n - sLo xs n)) ≤ 1024 * 64 := Nat.mul_le_mul (by omega) (bln64 _)
  refine lv_iload_n hx hb dMo_weigh_0 rfl (lv_at hl 1 rfl) ?_
  refine lv_tableIn (x := nI 2) (tgt := 64) hx hb dMo_weigh_1 (by decide) (by decide) rfl (by decide) ?_
  refine lv_aload_n hx hb dMo_weigh_64 rfl (lv_at hl 0 rfl) ?_
  refine kc_v (wc := [(qm, .inr (9, [.int cd, .int (nI n), .ref qmr, .int fm, .int (nI cm), .ref qmc, .int (nI szv), .ref qmb, .int (nI btv), .int (nI dm), .ref qml])), (qmr, .inl (cJ, 1024, .inr (.inl xs))), (qml, .inl (cJ, 1024, .inr (.inl lm)))]) (wr := []) hP hD hS hA [0, 1, 2] [] rfl rfl (by decide) (by decide) (by decide) (fun hPc hDc => va_runV (As := []) (rest := []) ⟨hx, hb, hml, hown, hts⟩ (m_listAll l D cJ cB cI cF qm cd n qmr fm cm qmc szv qmb btv dm qml xs lm _ (hn)) (cwV 0 hts (wsG_k tw_661 (wsG_k tw_663 (wsG_k tp_w14 (wsG_k tw_10 (wsG_c tw_664))))) rfl rfl rfl (by decide +kernel) ⟨Nat.le_of_ble_eq_true rfl, Nat.le_of_ble_eq_true rfl⟩) ⟨cf_blind, va_recv hK hPc (ci := 9) (q0 := 0) rfl rfl, cf_pre hPc hK hDc hWd⟩ rfl rfl hl.1 rfl (lv_room (Nat.le_of_ble_eq_true rfl)) dMo_weigh_65 ⟨Nat.le_of_ble_eq_true rfl, Nat.le_of_ble_eq_true rfl⟩) (fun u H locs hw hP hD hS => ?_)
  obtain ⟨dL, lL_⟩ := u
  obtain ⟨z1, -⟩ := hw
  have z1 : rInv xs n lL_ dL := z1
  have hP : va_P D vwCl [(qm, .inr (9, [.int cd, .int (nI n), .ref qmr, .int fm, .int (nI cm), .ref qmc, .int (nI szv), .ref qmb, .int (nI btv), .int (nI dL), .ref qml])), (qmr, .inl (cJ, 1024, .inr (.inl xs))), (qml, .inl (cJ, 1024, .inr (.inl lL_)))] H := hP
  have hD : va_D A [(qm, .inr (9, [.int cd, .int (nI n), .ref qmr, .int fm, .int (nI cm), .ref qmc, .int (nI szv), .ref qmb, .int (nI btv), .int (nI dL), .ref qml])), (qmr, .inl (cJ, 1024, .inr (.inl xs))), (qml, .inl (cJ, 1024, .inr (.inl lL_)))] := hD
  have hdd := rInv_un z1 hI
  have hd1 := z1.2.1
  have hd0 := z1.2.2.2.2 hn0
  have hm2 : n * bln (dL - 1) ≤ 1024 * 10 := Nat.mul_le_mul hn (bln_d (by omega))
  refine lv_iconst (v := nI 2) hx hb dMo_weigh_68 (by decide) ?_
  refine lv_bipush (v := nI 8) hx hb dMo_weigh_69 (by decide) ?_
  refine lv_aload_n hx hb dMo_weigh_71 rfl (lv_at hl 0 rfl) ?_
  refine va_get (D := D) (ci := 9) (v := .int (nI dL)) (C := "ColumnFormsModel") (T := TMo) (N := 11) hx hb hts inMo hown hK hP 0 rfl rfl 9 (by decide) (hts _ tw_598) (fun _ h9 => h9) rfl dMo_weigh_72 ?_
  refine lv_imul hx hb dMo_weigh_75 ?_
  refine tp_i (show ((nI 8) * (nI dL)) = (nI (8 * dL)) from pk_mul _ _) ?_
  refine lv_iadd hx hb dMo_weigh_76 ?_
  refine tp_i (show ((nI 2) + (nI (8 * dL))) = (nI (2 + (8 * dL))) from nI_add _ _) ?_
  refine lv_aload_n hx hb dMo_weigh_77 rfl (lv_at hl 0 rfl) ?_
  refine va_get (D := D) (ci := 9) (v := .int (nI n)) (C := "ColumnFormsModel") (T := TMo) (N := 11) hx hb hts inMo hown hK hP 0 rfl rfl 1 (by decide) (hts _ tw_590) (fun _ h9 => h9) rfl dMo_weigh_78 ?_
  refine lv_aload_n hx hb dMo_weigh_81 rfl (lv_at hl 0 rfl) ?_
  refine va_get (D := D) (ci := 9) (v := .int (nI dL)) (C := "ColumnFormsModel") (T := TMo) (N := 11) hx hb hts inMo hown hK hP 0 rfl rfl 9 (by decide) (hts _ tw_598) (fun _ h9 => h9) rfl dMo_weigh_82 ?_
  refine lv_iconst (v := nI 1) hx hb dMo_weigh_85 (by decide) ?_
  refine lv_isub hx hb dMo_weigh_86 ?_
  refine tp_i (show ((nI dL) - (nI 1)) = (nI (dL - 1)) from pk_sub (by omega)) ?_
  refine lv_i2l hx hb dMo_weigh_87 rfl ?_
  refine tp_l (show ((nI (dL - 1)).toInt64) = (lN (dL - 1)) from nI_l (by omega)) ?_
  refine kc_i (wc := []) (wr := [(qm, .inr (9, [.int cd, .int (nI n), .ref qmr, .int fm, .int (nI cm), .ref qmc, .int (nI szv), .ref qmb, .int (nI btv), .int (nI dL), .ref qml])), (qmr, .inl (cJ, 1024, .inr (.inl xs))), (qml, .inl (cJ, 1024, .inr (.inl lL_)))]) hP hD hS hA [] [0, 1, 2] rfl rfl (by decide) (by decide) (by decide) (fun hPc hDc => va_runS (As := [.long (lN (dL - 1))]) (rest := [.int (nI n), .int (nI (2 + (8 * dL)))]) ⟨hx, hb, hml, hown, hts⟩ (m_digits l D cJ cB cI cF (lN (dL - 1)) _) (va_cwS 1 hts (wsG_k tw_655 (wsG_k tw_656 (wsG_k tw_10 (wsG_c tw_657)))) rfl rfl rfl (by decide +kernel) ⟨Nat.le_of_ble_eq_true rfl, Nat.le_of_ble_eq_true rfl⟩) ⟨cf_blind, cf_pre hPc hK hDc hWd⟩ rfl rfl hl.1 rfl (lv_room (Nat.le_of_ble_eq_true rfl)) dMo_weigh_88 ⟨Nat.le_of_ble_eq_true rfl, Nat.le_of_ble_eq_true rfl⟩) (fun r u H locs hw hP hD hS => ?_)
  obtain ⟨rfl, -⟩ := hw
  have hP : va_P D vwCl [(qm, .inr (9, [.int cd, .int (nI n), .ref qmr, .int fm, .int (nI cm), .ref qmc, .int (nI szv), .ref qmb, .int (nI btv), .int (nI dL), .ref qml])), (qmr, .inl (cJ, 1024, .inr (.inl xs))), (qml, .inl (cJ, 1024, .inr (.inl lL_)))] H := hP
  have hD : va_D A [(qm, .inr (9, [.int cd, .int (nI n), .ref qmr, .int fm, .int (nI cm), .ref qmc, .int (nI szv), .ref qmb, .int (nI btv), .int (nI dL), .ref qml])), (qmr, .inl (cJ, 1024, .inr (.inl xs))), (qml, .inl (cJ, 1024, .inr (.inl lL_)))] := hD
  refine tp_i (show (nI (bln (uN (lN (dL - 1))))) = (nI (bln (dL - 1))) from congrArg (fun z => nI (bln z)) (uN_lN (by omega))) ?_
  refine lv_imul hx hb dMo_weigh_91 ?_
  refine tp_i (show ((nI n) * (nI (bln (dL - 1)))) = (nI (n * (bln (dL - 1)))) from pk_mul _ _) ?_
  refine kc_i (wc := []) (wr := [(qm, .inr (9, [.int cd, .int (nI n), .ref qmr, .int fm, .int (nI cm), .ref qmc, .int (nI szv), .ref qmb, .int (nI btv), .int (nI dL), .ref qml])), (qmr, .inl (cJ, 1024, .inr (.inl xs))), (qml, .inl (cJ, 1024, .inr (.inl lL_)))]) hP hD hS hA [] [0, 1, 2] rfl rfl (by decide) (by decide) (by decide) (fun hPc hDc => va_runS (As := [.int (nI (n * (bln (dL - 1))))]) (rest := [.int (nI (2 + (8 * dL)))]) ⟨hx, hb, hml, hown, hts⟩ (m_whole l D cJ cB cI cF (n * (bln (dL - 1))) _ (by omega)) (va_cwS 1 hts (wsG_k tw_658 (wsG_k tw_659 (wsG_k tw_10 (wsG_c tw_660)))) rfl rfl rfl (by decide +kernel) ⟨Nat.le_of_ble_eq_true rfl, Nat.le_of_ble_eq_true rfl⟩) ⟨cf_blind, cf_pre hPc hK hDc hWd⟩ rfl rfl hl.1 rfl (lv_room (Nat.le_of_ble_eq_true rfl)) dMo_weigh_92 ⟨Nat.le_of_ble_eq_true rfl, Nat.le_of_ble_eq_true rfl⟩) (fun r u H locs hw hP hD hS => ?_)
  obtain ⟨rfl, -⟩ := hw
  have hP : va_P D vwCl [(qm, .inr (9, [.int cd, .int (nI n), .ref qmr, .int fm, .int (nI cm), .ref qmc, .int (nI szv), .ref qmb, .int (nI btv), .int (nI dL), .ref qml])), (qmr, .inl (cJ, 1024, .inr (.inl xs))), (qml, .inl (cJ, 1024, .inr (.inl lL_)))] H := hP
  have hD : va_D A [(qm, .inr (9, [.int cd, .int (nI n), .ref qmr, .int fm, .int (nI cm), .ref qmc, .int (nI szv), .ref qmb, .int (nI btv), .int (nI dL), .ref qml])), (qmr, .inl (cJ, 1024, .inr (.inl xs))), (qml, .inl (cJ, 1024, .inr (.inl lL_)))] := hD
  refine lv_iadd hx hb dMo_weigh_95 ?_
  refine tp_i (show ((nI (2 + (8 * dL))) + (nI (((n * (bln (dL - 1))) + 7) / 8))) = (nI ((2 + (8 * dL)) + (((n * (bln (dL - 1))) + 7) / 8))) from nI_add _ _) ?_
  exact hret (nI ((2 + (8 * dL)) + (((n * (bln (dL - 1))) + 7) / 8))) (dL, lL_) _ _ _ _ _ _ ⟨congrArg nI (by show _ = (16 + 64 * d + n * bln (d - 1) + 7) / 8; rw [← hdd]; omega), trivial⟩ (hP.sub [0, 1, 2] rfl) (hD.sub [0, 1, 2] (by decide) rfl) hS (Nat.le_of_ble_eq_true rfl) (Nat.le_of_ble_eq_true rfl) dMo_weigh_96

set_option maxHeartbeats 4000000 in
set_option maxRecDepth 100000 in
theorem m_weigh_3 (l : Launch) (D : va_G) (cJ cB cI cF : ClassId) (qm : Nat) (cd : Int32) (n : Nat) (qmr : Nat) (fm : Int32) (cm : Nat) (qmc : Nat) (szv : Nat) (qmb : Nat) (btv : Nat) (dm : Nat) (qml : Nat) (xs : Nat → Int64) (lm : Nat → Int64) (rs : Nat → Int64) (d : Nat) (sz : Nat) (hn0 : 0 < n) (hn : n ≤ 1024) (hI : rInv xs n rs d) : Met l yMo_weigh (Cond.code yMo_weigh cMo_weigh 2 (some .int) :: wsG) ({ frames := 4, cells := 0, slots := 0, locals := 110 }) (va_Pc [.ref qm, .int (nI 3)] (cfPre D (cfT cJ cB cI cF) [(qm, .inr (9, [.int cd, .int (nI n), .ref qmr, .int fm, .int (nI cm), .ref qmc, .int (nI szv), .ref qmb, .int (nI btv), .int (nI dm), .ref qml])), (qmr, .inl (cJ, 1024, .inr (.inl xs))), (qml, .inl (cJ, 1024, .inr (.inl lm)))] sz)) (va_Qi (fun (r : Int32) (u : Nat × (Nat → Int64)) => r = nI (wGt n d (rRn xs n) (rLo xs n) (rHi xs n) (sLo xs n) (sHi xs n) 3) ∧ True) (fun u t => cfPost D ((fun (u : Nat × (Nat → Int64)) => [(qm, .inr (9, [.int cd, .int (nI n), .ref qmr, .int fm, .int (nI cm), .ref qmc, .int (nI szv), .ref qmb, .int (nI btv), .int (nI u.1), .ref qml])), (qmr, .inl (cJ, 1024, .inr (.inl xs))), (qml, .inl (cJ, 1024, .inr (.inl u.2)))]) u) (va_A [(qm, .inr (9, [.int cd, .int (nI n), .ref qmr, .int fm, .int (nI cm), .ref qmc, .int (nI szv), .ref qmb, .int (nI btv), .int (nI dm), .ref qml])), (qmr, .inl (cJ, 1024, .inr (.inl xs))), (qml, .inl (cJ, 1024, .inr (.inl lm)))] sz) t) (va_A [(qm, .inr (9, [.int cd, .int (nI n), .ref qmr, .int fm, .int (nI cm), .ref qmc, .int (nI szv), .ref qmb, .int (nI btv), .int (nI dm), .ref qml])), (qmr, .inl (cJ, 1024, .inr (.inl xs))), (qml, .inl (cJ, 1024, .inr (.inl lm)))] sz)) 0 0 (va_A [(qm, .inr (9, [.int cd, .int (nI n), .ref qmr, .int fm, .int (nI cm), .ref qmc, .int (nI szv), .ref qmb, .int (nI btv), .int (nI dm), .ref qml])), (qmr, .inl (cJ, 1024, .inr (.inl xs))), (qml, .inl (cJ, 1024, .inr (.inl lm)))] sz) := by
  refine met_i (cc := cMo_weigh) (maxL := 2) (S := Nat × (Nat → Int64)) (D := D) (wO := fun (u : Nat × (Nat → Int64)) => [(qm, .inr (9, [.int cd, .int (nI n), .ref qmr, .int fm, .int (nI cm), .ref qmc, .int (nI szv), .ref qmb, .int (nI btv), .int (nI u.1), .ref qml])), (qmr, .inl (cJ, 1024, .inr (.inl xs))), (qml, .inl (cJ, 1024, .inr (.inl u.2)))]) (by decide) (Nat.le_of_ble_eq_true rfl) ?_
  intro p e s m below meth c hx hb hml hown hts hlocks hin hWd A hA hsz hP hK hD hS Q hret ls hl
  have hown : s.vm.findClass "ColumnFormsModel" = some m.cls := hown
  have hl : lv_has ls 2 [(0, .ref qm), (1, .int (nI 3))] := hl
  have hP : va_P D vwCl [(qm, .inr (9, [.int cd, .int (nI n), .ref qmr, .int fm, .int (nI cm), .ref qmc, .int (nI szv), .ref qmb, .int (nI btv), .int (nI dm), .ref qml])), (qmr, .inl (cJ, 1024, .inr (.inl xs))), (qml, .inl (cJ, 1024, .inr (.inl lm)))] s.heap := hP
  have hm1 : n * bln (uN (rHi xs n - rLo xs n)) ≤ 1024 * 64 := Nat.mul_le_mul hn (bln64 _)
  have hm3 : (n - 1) * bln (uN (sHi xs n - sLo xs n)) ≤ 1024 * 64 := Nat.mul_le_mul (by omega) (bln64 _)
  refine lv_iload_n hx hb dMo_weigh_0 rfl (lv_at hl 1 rfl) ?_
  refine lv_tableIn (x := nI 3) (tgt := 97) hx hb dMo_weigh_1 (by decide) (by decide) rfl (by decide) ?_
  refine lv_iconst (v := nI 2) hx hb dMo_weigh_97 (by decide) ?_
  refine lv_bipush (v := nI 10) hx hb dMo_weigh_98 (by decide) ?_
  refine lv_aload_n hx hb dMo_weigh_100 rfl (lv_at hl 0 rfl) ?_
  refine kc_i (wc := [(qm, .inr (9, [.int cd, .int (nI n), .ref qmr, .int fm, .int (nI cm), .ref qmc, .int (nI szv), .ref qmb, .int (nI btv), .int (nI dm), .ref qml])), (qmr, .inl (cJ, 1024, .inr (.inl xs)))]) (wr := [(qml, .inl (cJ, 1024, .inr (.inl lm)))]) hP hD hS hA [0, 1] [2] rfl rfl (by decide) (by decide) (by decide) (fun hPc hDc => va_runV (As := []) (rest := [.int (nI 10), .int (nI 2)]) ⟨hx, hb, hml, hown, hts⟩ (m_runs l D cJ cB cI cF qm cd n qmr fm cm qmc szv qmb btv dm qml xs _ (hn0) (hn)) (cwV 0 hts (wsG_k tw_669 (wsG_k tw_671 (wsG_k tp_w16 (wsG_k tw_10 (wsG_c tw_672))))) rfl rfl rfl (by decide +kernel) ⟨Nat.le_of_ble_eq_true rfl, Nat.le_of_ble_eq_true rfl⟩) ⟨cf_blind, va_recv hK hPc (ci := 9) (q0 := 0) rfl rfl, cf_pre hPc hK hDc hWd⟩ rfl rfl hl.1 rfl (lv_room (Nat.le_of_ble_eq_true rfl)) dMo_weigh_101 ⟨Nat.le_of_ble_eq_true rfl, Nat.le_of_ble_eq_true rfl⟩) (fun r u H locs hw hP hD hS => ?_)
  obtain ⟨rfl, -⟩ := hw
  have hP : va_P D vwCl [(qml, .inl (cJ, 1024, .inr (.inl lm))), (qm, .inr (9, [.int cd, .int (nI n), .ref qmr, .int fm, .int (nI cm), .ref qmc, .int (nI szv), .ref qmb, .int (nI btv), .int (nI dm), .ref qml])), (qmr, .inl (cJ, 1024, .inr (.inl xs)))] H := hP
  have hD : va_D A [(qml, .inl (cJ, 1024, .inr (.inl lm))), (qm, .inr (9, [.int cd, .int (nI n), .ref qmr, .int fm, .int (nI cm), .ref qmc, .int (nI szv), .ref qmb, .int (nI btv), .int (nI dm), .ref qml])), (qmr, .inl (cJ, 1024, .inr (.inl xs)))] := hD
  refine lv_imul hx hb dMo_weigh_104 ?_
  refine tp_i (show ((nI 10) * (nI (rRn xs n))) = (nI (10 * (rRn xs n))) from pk_mul _ _) ?_
  refine lv_iadd hx hb dMo_weigh_105 ?_
  refine tp_i (show ((nI 2) + (nI (10 * (rRn xs n)))) = (nI (2 + (10 * (rRn xs n)))) from nI_add _ _) ?_
  exact hret (nI (2 + (10 * (rRn xs n)))) (dm, lm) _ _ _ _ _ _ ⟨congrArg nI (by show _ = (16 + 80 * rRn xs n + 7) / 8; omega), trivial⟩ (hP.sub [1, 2, 0] rfl) (hD.sub [1, 2, 0] (by decide) rfl) hS (Nat.le_of_ble_eq_true rfl) (Nat.le_of_ble_eq_true rfl) dMo_weigh_106

set_option maxHeartbeats 4000000 in
set_option maxRecDepth 100000 in
theorem m_weigh_4 (l : Launch) (D : va_G) (cJ cB cI cF : ClassId) (qm : Nat) (cd : Int32) (n : Nat) (qmr : Nat) (fm : Int32) (cm : Nat) (qmc : Nat) (szv : Nat) (qmb : Nat) (btv : Nat) (dm : Nat) (qml : Nat) (xs : Nat → Int64) (lm : Nat → Int64) (rs : Nat → Int64) (d : Nat) (sz : Nat) (hn0 : 0 < n) (hn : n ≤ 1024) (hI : rInv xs n rs d) : Met l yMo_weigh (Cond.code yMo_weigh cMo_weigh 2 (some .int) :: wsG) ({ frames := 4, cells := 0, slots := 0, locals := 110 }) (va_Pc [.ref qm, .int (nI 4)] (cfPre D (cfT cJ cB cI cF) [(qm, .inr (9, [.int cd, .int (nI n), .ref qmr, .int fm, .int (nI cm), .ref qmc, .int (nI szv), .ref qmb, .int (nI btv), .int (nI dm), .ref qml])), (qmr, .inl (cJ, 1024, .inr (.inl xs))), (qml, .inl (cJ, 1024, .inr (.inl lm)))] sz)) (va_Qi (fun (r : Int32) (u : Nat × (Nat → Int64)) => r = nI (wGt n d (rRn xs n) (rLo xs n) (rHi xs n) (sLo xs n) (sHi xs n) 4) ∧ True) (fun u t => cfPost D ((fun (u : Nat × (Nat → Int64)) => [(qm, .inr (9, [.int cd, .int (nI n), .ref qmr, .int fm, .int (nI cm), .ref qmc, .int (nI szv), .ref qmb, .int (nI btv), .int (nI u.1), .ref qml])), (qmr, .inl (cJ, 1024, .inr (.inl xs))), (qml, .inl (cJ, 1024, .inr (.inl u.2)))]) u) (va_A [(qm, .inr (9, [.int cd, .int (nI n), .ref qmr, .int fm, .int (nI cm), .ref qmc, .int (nI szv), .ref qmb, .int (nI btv), .int (nI dm), .ref qml])), (qmr, .inl (cJ, 1024, .inr (.inl xs))), (qml, .inl (cJ, 1024, .inr (.inl lm)))] sz) t) (va_A [(qm, .inr (9, [.int cd, .int (nI n), .ref qmr, .int fm, .int (nI cm), .ref qmc, .int (nI szv), .ref qmb, .int (nI btv), .int (nI dm), .ref qml])), (qmr, .inl (cJ, 1024, .inr (.inl xs))), (qml, .inl (cJ, 1024, .inr (.inl lm)))] sz)) 0 0 (va_A [(qm, .inr (9, [.int cd, .int (nI n), .ref qmr, .int fm, .int (nI cm), .ref qmc, .int (nI szv), .ref qmb, .int (nI btv), .int (nI dm), .ref qml])), (qmr, .inl (cJ, 1024, .inr (.inl xs))), (qml, .inl (cJ, 1024, .inr (.inl lm)))] sz) := by
  refine met_i (cc := cMo_weigh) (maxL := 2) (S := Nat × (Nat → Int64)) (D := D) (wO := fun (u : Nat × (Nat → Int64)) => [(qm, .inr (9, [.int cd, .int (nI n), .ref qmr, .int fm, .int (nI cm), .ref qmc, .int (nI szv), .ref qmb, .int (nI btv), .int (nI u.1), .ref qml])), (qmr, .inl (cJ, 1024, .inr (.inl xs))), (qml, .inl (cJ, 1024, .inr (.inl u.2)))]) (by decide) (Nat.le_of_ble_eq_true rfl) ?_
  intro p e s m below meth c hx hb hml hown hts hlocks hin hWd A hA hsz hP hK hD hS Q hret ls hl
  have hown : s.vm.findClass "ColumnFormsModel" = some m.cls := hown
  have hl : lv_has ls 2 [(0, .ref qm), (1, .int (nI 4))] := hl
  have hP : va_P D vwCl [(qm, .inr (9, [.int cd, .int (nI n), .ref qmr, .int fm, .int (nI cm), .ref qmc, .int (nI szv), .ref qmb, .int (nI btv), .int (nI dm), .ref qml])), (qmr, .inl (cJ, 1024, .inr (.inl xs))), (qml, .inl (cJ, 1024, .inr (.inl lm)))] s.heap := hP
  have hm1 : n * bln (uN (rHi xs n - rLo xs n)) ≤ 1024 * 64 := Nat.mul_le_mul hn (bln64 _)
  have hm3 : (n - 1) * bln (uN (sHi xs n - sLo xs n)) ≤ 1024 * 64 := Nat.mul_le_mul (by omega) (bln64 _)
  refine lv_iload_n hx hb dMo_weigh_0 rfl (lv_at hl 1 rfl) ?_
  refine lv_tableOut (x := nI 4) (tgt := 107) hx hb dMo_weigh_1 (Or.inr (by decide)) (by decide) ?_
  refine lv_bipush (v := nI 17) hx hb dMo_weigh_107 (by decide) ?_
  refine lv_aload_n hx hb dMo_weigh_109 rfl (lv_at hl 0 rfl) ?_
  refine va_get (D := D) (ci := 9) (v := .int (nI n)) (C := "ColumnFormsModel") (T := TMo) (N := 11) hx hb hts inMo hown hK hP 0 rfl rfl 1 (by decide) (hts _ tw_590) (fun _ h9 => h9) rfl dMo_weigh_110 ?_
  refine lv_iconst (v := nI 1) hx hb dMo_weigh_113 (by decide) ?_
  refine lv_isub hx hb dMo_weigh_114 ?_
  refine tp_i (show ((nI n) - (nI 1)) = (nI (n - 1)) from pk_sub (by omega)) ?_
  refine lv_aload_n hx hb dMo_weigh_115 rfl (lv_at hl 0 rfl) ?_
  refine kc_l (wc := [(qm, .inr (9, [.int cd, .int (nI n), .ref qmr, .int fm, .int (nI cm), .ref qmc, .int (nI szv), .ref qmb, .int (nI btv), .int (nI dm), .ref qml])), (qmr, .inl (cJ, 1024, .inr (.inl xs)))]) (wr := [(qml, .inl (cJ, 1024, .inr (.inl lm)))]) hP hD hS hA [0, 1] [2] rfl rfl (by decide) (by decide) (by decide) (fun hPc hDc => va_runV (As := []) (rest := [.int (nI (n - 1)), .int (nI 17)]) ⟨hx, hb, hml, hown, hts⟩ (m_gstep l D cJ cB cI cF qm cd n qmr fm cm qmc szv qmb btv dm qml xs _ (hn0) (hn)) (cwV 0 hts (wsG_k tw_673 (wsG_k tw_675 (wsG_k tp_w17 (wsG_k tw_10 (wsG_c tw_676))))) rfl rfl rfl (by decide +kernel) ⟨Nat.le_of_ble_eq_true rfl, Nat.le_of_ble_eq_true rfl⟩) ⟨cf_blind, va_recv hK hPc (ci := 9) (q0 := 0) rfl rfl, cf_pre hPc hK hDc hWd⟩ rfl rfl hl.1 rfl (lv_room (Nat.le_of_ble_eq_true rfl)) dMo_weigh_116 ⟨Nat.le_of_ble_eq_true rfl, Nat.le_of_ble_eq_true rfl⟩) (fun r u H locs hw hP hD hS => ?_)
  obtain ⟨rfl, -⟩ := hw
  have hP : va_P D vwCl [(qml, .inl (cJ, 1024, .inr (.inl lm))), (qm, .inr (9, [.int cd, .int (nI n), .ref qmr, .int fm, .int (nI cm), .ref qmc, .int (nI szv), .ref qmb, .int (nI btv), .int (nI dm), .ref qml])), (qmr, .inl (cJ, 1024, .inr (.inl xs)))] H := hP
  have hD : va_D A [(qml, .inl (cJ, 1024, .inr (.inl lm))), (qm, .inr (9, [.int cd, .int (nI n), .ref qmr, .int fm, .int (nI cm), .ref qmc, .int (nI szv), .ref qmb, .int (nI btv), .int (nI dm), .ref qml])), (qmr, .inl (cJ, 1024, .inr (.inl xs)))] := hD
  refine lv_aload_n hx hb dMo_weigh_119 rfl (lv_at hl 0 rfl) ?_
  refine kc_l (wc := [(qm, .inr (9, [.int cd, .int (nI n), .ref qmr, .int fm, .int (nI cm), .ref qmc, .int (nI szv), .ref qmb, .int (nI btv), .int (nI dm), .ref qml])), (qmr, .inl (cJ, 1024, .inr (.inl xs)))]) (wr := [(qml, .inl (cJ, 1024, .inr (.inl lm)))]) hP hD hS hA [1, 2] [0] rfl rfl (by decide) (by decide) (by decide) (fun hPc hDc => va_runV (As := []) (rest := [.long (sHi xs n), .int (nI (n - 1)), .int (nI 17)]) ⟨hx, hb, hml, hown, hts⟩ (m_lstep l D cJ cB cI cF qm cd n qmr fm cm qmc szv qmb btv dm qml xs _ (hn0) (hn)) (cwV 0 hts (wsG_k tw_681 (wsG_k tw_683 (wsG_k tp_w19 (wsG_k tw_10 (wsG_c tw_684))))) rfl rfl rfl (by decide +kernel) ⟨Nat.le_of_ble_eq_true rfl, Nat.le_of_ble_eq_true rfl⟩) ⟨cf_blind, va_recv hK hPc (ci := 9) (q0 := 0) rfl rfl, cf_pre hPc hK hDc hWd⟩ rfl rfl hl.1 rfl (lv_room (Nat.le_of_ble_eq_true rfl)) dMo_weigh_120 ⟨Nat.le_of_ble_eq_true rfl, Nat.le_of_ble_eq_true rfl⟩) (fun r u H locs hw hP hD hS => ?_)
  obtain ⟨rfl, -⟩ := hw
  have hP : va_P D vwCl [(qml, .inl (cJ, 1024, .inr (.inl lm))), (qm, .inr (9, [.int cd, .int (nI n), .ref qmr, .int fm, .int (nI cm), .ref qmc, .int (nI szv), .ref qmb, .int (nI btv), .int (nI dm), .ref qml])), (qmr, .inl (cJ, 1024, .inr (.inl xs)))] H := hP
  have hD : va_D A [(qml, .inl (cJ, 1024, .inr (.inl lm))), (qm, .inr (9, [.int cd, .int (nI n), .ref qmr, .int fm, .int (nI cm), .ref qmc, .int (nI szv), .ref qmb, .int (nI btv), .int (nI dm), .ref qml])), (qmr, .inl (cJ, 1024, .inr (.inl xs)))] := hD
  refine lv_lsub hx hb dMo_weigh_123 ?_
  refine kc_i (wc := []) (wr := [(qml, .inl (cJ, 1024, .inr (.inl lm))), (qm, .inr (9, [.int cd, .int (nI n), .ref qmr, .int fm, .int (nI cm), .ref qmc, .int (nI szv), .ref qmb, .int (nI btv), .int (nI dm), .ref qml])), (qmr, .inl (cJ, 1024, .inr (.inl xs)))]) hP hD hS hA [] [0, 1, 2] rfl rfl (by decide) (by decide) (by decide) (fun hPc hDc => va_runS (As := [.long ((sHi xs n) - (sLo xs n))]) (rest := [.int (nI (n - 1)), .int (nI 17)]) ⟨hx, hb, hml, hown, hts⟩ (m_digits l D cJ cB cI cF ((sHi xs n) - (sLo xs n)) _) (va_cwS 1 hts (wsG_k tw_655 (wsG_k tw_656 (wsG_k tw_10 (wsG_c tw_657)))) rfl rfl rfl (by decide +kernel) ⟨Nat.le_of_ble_eq_true rfl, Nat.le_of_ble_eq_true rfl⟩) ⟨cf_blind, cf_pre hPc hK hDc hWd⟩ rfl rfl hl.1 rfl (lv_room (Nat.le_of_ble_eq_true rfl)) dMo_weigh_124 ⟨Nat.le_of_ble_eq_true rfl, Nat.le_of_ble_eq_true rfl⟩) (fun r u H locs hw hP hD hS => ?_)
  obtain ⟨rfl, -⟩ := hw
  have hP : va_P D vwCl [(qml, .inl (cJ, 1024, .inr (.inl lm))), (qm, .inr (9, [.int cd, .int (nI n), .ref qmr, .int fm, .int (nI cm), .ref qmc, .int (nI szv), .ref qmb, .int (nI btv), .int (nI dm), .ref qml])), (qmr, .inl (cJ, 1024, .inr (.inl xs)))] H := hP
  have hD : va_D A [(qml, .inl (cJ, 1024, .inr (.inl lm))), (qm, .inr (9, [.int cd, .int (nI n), .ref qmr, .int fm, .int (nI cm), .ref qmc, .int (nI szv), .ref qmb, .int (nI btv), .int (nI dm), .ref qml])), (qmr, .inl (cJ, 1024, .inr (.inl xs)))] := hD
  refine lv_imul hx hb dMo_weigh_127 ?_
  refine tp_i (show ((nI (n - 1)) * (nI (bln (uN ((sHi xs n) - (sLo xs n)))))) = (nI ((n - 1) * (bln (uN ((sHi xs n) - (sLo xs n)))))) from pk_mul _ _) ?_
  refine kc_i (wc := []) (wr := [(qml, .inl (cJ, 1024, .inr (.inl lm))), (qm, .inr (9, [.int cd, .int (nI n), .ref qmr, .int fm, .int (nI cm), .ref qmc, .int (nI szv), .ref qmb, .int (nI btv), .int (nI dm), .ref qml])), (qmr, .inl (cJ, 1024, .inr (.inl xs)))]) hP hD hS hA [] [0, 1, 2] rfl rfl (by decide) (by decide) (by decide) (fun hPc hDc => va_runS (As := [.int (nI ((n - 1) * (bln (uN ((sHi xs n) - (sLo xs n))))))]) (rest := [.int (nI 17)]) ⟨hx, hb, hml, hown, hts⟩ (m_whole l D cJ cB cI cF ((n - 1) * (bln (uN ((sHi xs n) - (sLo xs n))))) _ (by omega)) (va_cwS 1 hts (wsG_k tw_658 (wsG_k tw_659 (wsG_k tw_10 (wsG_c tw_660)))) rfl rfl rfl (by decide +kernel) ⟨Nat.le_of_ble_eq_true rfl, Nat.le_of_ble_eq_true rfl⟩) ⟨cf_blind, cf_pre hPc hK hDc hWd⟩ rfl rfl hl.1 rfl (lv_room (Nat.le_of_ble_eq_true rfl)) dMo_weigh_128 ⟨Nat.le_of_ble_eq_true rfl, Nat.le_of_ble_eq_true rfl⟩) (fun r u H locs hw hP hD hS => ?_)
  obtain ⟨rfl, -⟩ := hw
  have hP : va_P D vwCl [(qml, .inl (cJ, 1024, .inr (.inl lm))), (qm, .inr (9, [.int cd, .int (nI n), .ref qmr, .int fm, .int (nI cm), .ref qmc, .int (nI szv), .ref qmb, .int (nI btv), .int (nI dm), .ref qml])), (qmr, .inl (cJ, 1024, .inr (.inl xs)))] H := hP
  have hD : va_D A [(qml, .inl (cJ, 1024, .inr (.inl lm))), (qm, .inr (9, [.int cd, .int (nI n), .ref qmr, .int fm, .int (nI cm), .ref qmc, .int (nI szv), .ref qmb, .int (nI btv), .int (nI dm), .ref qml])), (qmr, .inl (cJ, 1024, .inr (.inl xs)))] := hD
  refine lv_iadd hx hb dMo_weigh_131 ?_
  refine tp_i (show ((nI 17) + (nI ((((n - 1) * (bln (uN ((sHi xs n) - (sLo xs n))))) + 7) / 8))) = (nI (17 + ((((n - 1) * (bln (uN ((sHi xs n) - (sLo xs n))))) + 7) / 8))) from nI_add _ _) ?_
  exact hret (nI (17 + ((((n - 1) * (bln (uN ((sHi xs n) - (sLo xs n))))) + 7) / 8))) (dm, lm) _ _ _ _ _ _ ⟨congrArg nI (by show _ = (136 + (n - 1) * bln (uN (sHi xs n - sLo xs n)) + 7) / 8; omega), trivial⟩ (hP.sub [1, 2, 0] rfl) (hD.sub [1, 2, 0] (by decide) rfl) hS (Nat.le_of_ble_eq_true rfl) (Nat.le_of_ble_eq_true rfl) dMo_weigh_132

set_option maxHeartbeats 4000000 in
theorem m_weigh (l : Launch) (D : va_G) (cJ cB cI cF : ClassId) (qm : Nat) (cd : Int32) (n : Nat) (qmr : Nat) (fm : Int32) (cm : Nat) (qmc : Nat) (szv : Nat) (qmb : Nat) (btv : Nat) (dm : Nat) (qml : Nat) (xs : Nat → Int64) (lm : Nat → Int64) (rs : Nat → Int64) (d : Nat) (k : Nat) (sz : Nat) (hn0 : 0 < n) (hn : n ≤ 1024) (hI : rInv xs n rs d) (hk : k < 5) : Met l yMo_weigh (Cond.code yMo_weigh cMo_weigh 2 (some .int) :: wsG) ({ frames := 4, cells := 0, slots := 0, locals := 110 }) (va_Pc [.ref qm, .int (nI k)] (cfPre D (cfT cJ cB cI cF) [(qm, .inr (9, [.int cd, .int (nI n), .ref qmr, .int fm, .int (nI cm), .ref qmc, .int (nI szv), .ref qmb, .int (nI btv), .int (nI dm), .ref qml])), (qmr, .inl (cJ, 1024, .inr (.inl xs))), (qml, .inl (cJ, 1024, .inr (.inl lm)))] sz)) (va_Qi (fun (r : Int32) (u : Nat × (Nat → Int64)) => r = nI (wGt n d (rRn xs n) (rLo xs n) (rHi xs n) (sLo xs n) (sHi xs n) k) ∧ True) (fun u t => cfPost D ((fun (u : Nat × (Nat → Int64)) => [(qm, .inr (9, [.int cd, .int (nI n), .ref qmr, .int fm, .int (nI cm), .ref qmc, .int (nI szv), .ref qmb, .int (nI btv), .int (nI u.1), .ref qml])), (qmr, .inl (cJ, 1024, .inr (.inl xs))), (qml, .inl (cJ, 1024, .inr (.inl u.2)))]) u) (va_A [(qm, .inr (9, [.int cd, .int (nI n), .ref qmr, .int fm, .int (nI cm), .ref qmc, .int (nI szv), .ref qmb, .int (nI btv), .int (nI dm), .ref qml])), (qmr, .inl (cJ, 1024, .inr (.inl xs))), (qml, .inl (cJ, 1024, .inr (.inl lm)))] sz) t) (va_A [(qm, .inr (9, [.int cd, .int (nI n), .ref qmr, .int fm, .int (nI cm), .ref qmc, .int (nI szv), .ref qmb, .int (nI btv), .int (nI dm), .ref qml])), (qmr, .inl (cJ, 1024, .inr (.inl xs))), (qml, .inl (cJ, 1024, .inr (.inl lm)))] sz)) 0 0 (va_A [(qm, .inr (9, [.int cd, .int (nI n), .ref qmr, .int fm, .int (nI cm), .ref qmc, .int (nI szv), .ref qmb, .int (nI btv), .int (nI dm), .ref qml])), (qmr, .inl (cJ, 1024, .inr (.inl xs))), (qml, .inl (cJ, 1024, .inr (.inl lm)))] sz) := by
  rcases (show k = 0 ∨ k = 1 ∨ k = 2 ∨ k = 3 ∨ k = 4 by omega) with rfl | rfl | rfl | rfl | rfl
  · exact m_weigh_0 l D cJ cB cI cF qm cd n qmr fm cm qmc szv qmb btv dm qml xs lm rs d sz hn0 hn hI
  · exact m_weigh_1 l D cJ cB cI cF qm cd n qmr fm cm qmc szv qmb btv dm qml xs lm rs d sz hn0 hn hI
  · exact m_weigh_2 l D cJ cB cI cF qm cd n qmr fm cm qmc szv qmb btv dm qml xs lm rs d sz hn0 hn hI
  · exact m_weigh_3 l D cJ cB cI cF qm cd n qmr fm cm qmc szv qmb btv dm qml xs lm rs d sz hn0 hn hI
  · exact m_weigh_4 l D cJ cB cI cF qm cd n qmr fm cm qmc szv qmb btv dm qml xs lm rs d sz hn0 hn hI

