set_option maxHeartbeats 4000000 in
set_option maxRecDepth 100000 in
theorem c_at (l : Launch) (D : va_G) (cJ cB cI cF : ClassId) (qr : Nat) (n : Nat) (d : Nat) (rn : Nat) (lo : Int64) (hi : Int64) (sl : Int64) (sh : Int64) (qc : Nat) (qs : Nat) (xs : Nat → Int64) (i : Nat) (sz : Nat) (hi1 : i < n) (hn : n ≤ 1024) : Met l yRo_at (Cond.code yRo_at cRo_at 2 (some .long) :: wsG) ({ frames := 0, cells := 0, slots := 0, locals := 0 }) (va_Pc [.ref qr, .int (nI i)] (cfPre D (cfT cJ cB cI cF) [(qr, .inr (5, [.int (nI n), .int (nI d), .int (nI rn), .long lo, .long hi, .long sl, .long sh, .ref qc, .ref qs])), (qc, .inl (cJ, 1024, .inr (.inl xs)))] sz)) (va_Ql (fun (r : Int64) (u : Unit) => r = xs i ∧ True) (fun u t => cfPost D ((fun (u : Unit) => [(qr, .inr (5, [.int (nI n), .int (nI d), .int (nI rn), .long lo, .long hi, .long sl, .long sh, .ref qc, .ref qs])), (qc, .inl (cJ, 1024, .inr (.inl xs)))]) u) (va_A [(qr, .inr (5, [.int (nI n), .int (nI d), .int (nI rn), .long lo, .long hi, .long sl, .long sh, .ref qc, .ref qs])), (qc, .inl (cJ, 1024, .inr (.inl xs)))] sz) t) (va_A [(qr, .inr (5, [.int (nI n), .int (nI d), .int (nI rn), .long lo, .long hi, .long sl, .long sh, .ref qc, .ref qs])), (qc, .inl (cJ, 1024, .inr (.inl xs)))] sz)) 0 0 (va_A [(qr, .inr (5, [.int (nI n), .int (nI d), .int (nI rn), .long lo, .long hi, .long sl, .long sh, .ref qc, .ref qs])), (qc, .inl (cJ, 1024, .inr (.inl xs)))] sz) := by
  refine met_l (cc := cRo_at) (maxL := 2) (S := Unit) (D := D) (wO := fun (u : Unit) => [(qr, .inr (5, [.int (nI n), .int (nI d), .int (nI rn), .long lo, .long hi, .long sl, .long sh, .ref qc, .ref qs])), (qc, .inl (cJ, 1024, .inr (.inl xs)))]) (by decide) (Nat.le_of_ble_eq_true rfl) ?_
  intro p e s m below meth c hx hb hml hown hts hlocks hin hWd A hA hsz hP hK hD hS Q hret ls hl
  have hown : s.vm.findClass "ColumnForms$Row" = some m.cls := hown
  have hl : lv_has ls 2 [(0, .ref qr), (1, .int (nI i))] := hl
  have hP : va_P D vwCl [(qr, .inr (5, [.int (nI n), .int (nI d), .int (nI rn), .long lo, .long hi, .long sl, .long sh, .ref qc, .ref qs])), (qc, .inl (cJ, 1024, .inr (.inl xs)))] s.heap := hP
  refine lv_iload_n hx hb dRo_at_0 rfl (lv_at hl 1 rfl) ?_
  refine lv_if_lt (tgt := 21) hx hb dRo_at_1 (by decide) (fun c1 => ?_) (fun c1 => ?_)
  · have c1 : i < 0 := (nI_ltI (b := 0) (by omega) (by omega)).mp c1
    exact absurd c1 (by omega)
  · have c1 : ¬ i < 0 := fun h => c1 ((nI_ltI (b := 0) (by omega) (by omega)).mpr h)
    refine lv_iload_n hx hb dRo_at_4 rfl (lv_at hl 1 rfl) ?_
    refine lv_aload_n hx hb dRo_at_5 rfl (lv_at hl 0 rfl) ?_
    refine va_get (D := D) (ci := 5) (v := .int (nI n)) (C := "ColumnForms$Row") (T := TRo) (N := 9) hx hb hts inRo hown hK hP 0 rfl rfl 0 (by decide) (hts _ tw_40) (fun _ h9 => h9) rfl dRo_at_6 ?_
    refine lv_icmp_ge (tgt := 21) hx hb dRo_at_9 (by decide) (fun c9 => ?_) (fun c9 => ?_)
    · have c9 : n ≤ i := (nI_leI (by omega) (by omega)).mp c9
      exact absurd c9 (by omega)
    · have c9 : ¬ n ≤ i := fun h => c9 ((nI_leI (by omega) (by omega)).mpr h)
      refine lv_aload_n hx hb dRo_at_12 rfl (lv_at hl 0 rfl) ?_
      refine va_get (D := D) (ci := 5) (v := .ref qc) (C := "ColumnForms$Row") (T := TRo) (N := 9) hx hb hts inRo hown hK hP 0 rfl rfl 7 (by decide) (hts _ tw_55) (fun _ h9 => h9) rfl dRo_at_13 ?_
      refine lv_iload_n hx hb dRo_at_16 rfl (lv_at hl 1 rfl) ?_
      refine va_lald hx hb hK hP 1 0 rfl rfl (vp_in_nI (by omega) (by omega)) dRo_at_17 ?_
      refine tp_l (show (xs (nI i).toNatClampNeg) = (xs i) from congrArg _ (nI_clamp (by omega))) ?_
      refine lv_goto (tgt := 22) hx hb dRo_at_18 (by decide) ?_
      exact hret (xs i) () _ _ _ _ _ _ ⟨rfl, trivial⟩ (hP.sub [0, 1] rfl) (hD.sub [0, 1] (by decide) rfl) hS (Nat.le_of_ble_eq_true rfl) (Nat.le_of_ble_eq_true rfl) dRo_at_22

set_option maxHeartbeats 4000000 in
set_option maxRecDepth 100000 in
theorem c_difAt (l : Launch) (D : va_G) (cJ cB cI cF : ClassId) (qr : Nat) (n : Nat) (d : Nat) (rn : Nat) (lo : Int64) (hi : Int64) (sl : Int64) (sh : Int64) (qc : Nat) (qs : Nat) (rs : Nat → Int64) (i : Nat) (sz : Nat) (hi1 : i < d) (hd : d ≤ 1024) : Met l yRo_differentAt (Cond.code yRo_differentAt cRo_differentAt 2 (some .long) :: wsG) ({ frames := 0, cells := 0, slots := 0, locals := 0 }) (va_Pc [.ref qr, .int (nI i)] (cfPre D (cfT cJ cB cI cF) [(qr, .inr (5, [.int (nI n), .int (nI d), .int (nI rn), .long lo, .long hi, .long sl, .long sh, .ref qc, .ref qs])), (qs, .inl (cJ, 1024, .inr (.inl rs)))] sz)) (va_Ql (fun (r : Int64) (u : Unit) => r = rs i ∧ True) (fun u t => cfPost D ((fun (u : Unit) => [(qr, .inr (5, [.int (nI n), .int (nI d), .int (nI rn), .long lo, .long hi, .long sl, .long sh, .ref qc, .ref qs])), (qs, .inl (cJ, 1024, .inr (.inl rs)))]) u) (va_A [(qr, .inr (5, [.int (nI n), .int (nI d), .int (nI rn), .long lo, .long hi, .long sl, .long sh, .ref qc, .ref qs])), (qs, .inl (cJ, 1024, .inr (.inl rs)))] sz) t) (va_A [(qr, .inr (5, [.int (nI n), .int (nI d), .int (nI rn), .long lo, .long hi, .long sl, .long sh, .ref qc, .ref qs])), (qs, .inl (cJ, 1024, .inr (.inl rs)))] sz)) 0 0 (va_A [(qr, .inr (5, [.int (nI n), .int (nI d), .int (nI rn), .long lo, .long hi, .long sl, .long sh, .ref qc, .ref qs])), (qs, .inl (cJ, 1024, .inr (.inl rs)))] sz) := by
  refine met_l (cc := cRo_differentAt) (maxL := 2) (S := Unit) (D := D) (wO := fun (u : Unit) => [(qr, .inr (5, [.int (nI n), .int (nI d), .int (nI rn), .long lo, .long hi, .long sl, .long sh, .ref qc, .ref qs])), (qs, .inl (cJ, 1024, .inr (.inl rs)))]) (by decide) (Nat.le_of_ble_eq_true rfl) ?_
  intro p e s m below meth c hx hb hml hown hts hlocks hin hWd A hA hsz hP hK hD hS Q hret ls hl
  have hown : s.vm.findClass "ColumnForms$Row" = some m.cls := hown
  have hl : lv_has ls 2 [(0, .ref qr), (1, .int (nI i))] := hl
  have hP : va_P D vwCl [(qr, .inr (5, [.int (nI n), .int (nI d), .int (nI rn), .long lo, .long hi, .long sl, .long sh, .ref qc, .ref qs])), (qs, .inl (cJ, 1024, .inr (.inl rs)))] s.heap := hP
  refine lv_iload_n hx hb dRo_differentAt_0 rfl (lv_at hl 1 rfl) ?_
  refine lv_if_lt (tgt := 21) hx hb dRo_differentAt_1 (by decide) (fun c1 => ?_) (fun c1 => ?_)
  · have c1 : i < 0 := (nI_ltI (b := 0) (by omega) (by omega)).mp c1
    exact absurd c1 (by omega)
  · have c1 : ¬ i < 0 := fun h => c1 ((nI_ltI (b := 0) (by omega) (by omega)).mpr h)
    refine lv_iload_n hx hb dRo_differentAt_4 rfl (lv_at hl 1 rfl) ?_
    refine lv_aload_n hx hb dRo_differentAt_5 rfl (lv_at hl 0 rfl) ?_
    refine va_get (D := D) (ci := 5) (v := .int (nI d)) (C := "ColumnForms$Row") (T := TRo) (N := 9) hx hb hts inRo hown hK hP 0 rfl rfl 1 (by decide) (hts _ tw_44) (fun _ h9 => h9) rfl dRo_differentAt_6 ?_
    refine lv_icmp_ge (tgt := 21) hx hb dRo_differentAt_9 (by decide) (fun c9 => ?_) (fun c9 => ?_)
    · have c9 : d ≤ i := (nI_leI (by omega) (by omega)).mp c9
      exact absurd c9 (by omega)
    · have c9 : ¬ d ≤ i := fun h => c9 ((nI_leI (by omega) (by omega)).mpr h)
      refine lv_aload_n hx hb dRo_differentAt_12 rfl (lv_at hl 0 rfl) ?_
      refine va_get (D := D) (ci := 5) (v := .ref qs) (C := "ColumnForms$Row") (T := TRo) (N := 9) hx hb hts inRo hown hK hP 0 rfl rfl 8 (by decide) (hts _ tw_56) (fun _ h9 => h9) rfl dRo_differentAt_13 ?_
      refine lv_iload_n hx hb dRo_differentAt_16 rfl (lv_at hl 1 rfl) ?_
      refine va_lald hx hb hK hP 1 0 rfl rfl (vp_in_nI (by omega) (by omega)) dRo_differentAt_17 ?_
      refine tp_l (show (rs (nI i).toNatClampNeg) = (rs i) from congrArg _ (nI_clamp (by omega))) ?_
      refine lv_goto (tgt := 22) hx hb dRo_differentAt_18 (by decide) ?_
      exact hret (rs i) () _ _ _ _ _ _ ⟨rfl, trivial⟩ (hP.sub [0, 1] rfl) (hD.sub [0, 1] (by decide) rfl) hS (Nat.le_of_ble_eq_true rfl) (Nat.le_of_ble_eq_true rfl) dRo_differentAt_22

set_option maxHeartbeats 4000000 in
set_option maxRecDepth 100000 in
theorem c_placeOf (l : Launch) (D : va_G) (cJ cB cI cF : ClassId) (qr : Nat) (n : Nat) (d : Nat) (rn : Nat) (lo : Int64) (hi : Int64) (sl : Int64) (sh : Int64) (qc : Nat) (qs : Nat) (rs : Nat → Int64) (v : Int64) (t : Nat) (sz : Nat) (hd : d ≤ 1024) (ht : rPl rs d v t) : Met l yRo_placeOf (Cond.code yRo_placeOf cRo_placeOf 5 (some .int) :: wsG) ({ frames := 1, cells := 0, slots := 0, locals := 21 }) (va_Pc [.ref qr, .long v] (cfPre D (cfT cJ cB cI cF) [(qr, .inr (5, [.int (nI n), .int (nI d), .int (nI rn), .long lo, .long hi, .long sl, .long sh, .ref qc, .ref qs])), (qs, .inl (cJ, 1024, .inr (.inl rs)))] sz)) (va_Qi (fun (r : Int32) (u : Unit) => r = nI t ∧ True) (fun u t => cfPost D ((fun (u : Unit) => [(qr, .inr (5, [.int (nI n), .int (nI d), .int (nI rn), .long lo, .long hi, .long sl, .long sh, .ref qc, .ref qs])), (qs, .inl (cJ, 1024, .inr (.inl rs)))]) u) (va_A [(qr, .inr (5, [.int (nI n), .int (nI d), .int (nI rn), .long lo, .long hi, .long sl, .long sh, .ref qc, .ref qs])), (qs, .inl (cJ, 1024, .inr (.inl rs)))] sz) t) (va_A [(qr, .inr (5, [.int (nI n), .int (nI d), .int (nI rn), .long lo, .long hi, .long sl, .long sh, .ref qc, .ref qs])), (qs, .inl (cJ, 1024, .inr (.inl rs)))] sz)) 0 0 (va_A [(qr, .inr (5, [.int (nI n), .int (nI d), .int (nI rn), .long lo, .long hi, .long sl, .long sh, .ref qc, .ref qs])), (qs, .inl (cJ, 1024, .inr (.inl rs)))] sz) := by
  refine met_i (cc := cRo_placeOf) (maxL := 5) (S := Unit) (D := D) (wO := fun (u : Unit) => [(qr, .inr (5, [.int (nI n), .int (nI d), .int (nI rn), .long lo, .long hi, .long sl, .long sh, .ref qc, .ref qs])), (qs, .inl (cJ, 1024, .inr (.inl rs)))]) (by decide) (Nat.le_of_ble_eq_true rfl) ?_
  intro p e s m below meth c hx hb hml hown hts hlocks hin hWd A hA hsz hP hK hD hS Q hret ls hl
  have hown : s.vm.findClass "ColumnForms$Row" = some m.cls := hown
  have hl : lv_has ls 5 [(0, .ref qr), (1, .long v)] := hl
  have hP : va_P D vwCl [(qr, .inr (5, [.int (nI n), .int (nI d), .int (nI rn), .long lo, .long hi, .long sl, .long sh, .ref qc, .ref qs])), (qs, .inl (cJ, 1024, .inr (.inl rs)))] s.heap := hP
  have ht1 := ht.1
  refine lv_iconst (v := nI 0) hx hb dRo_placeOf_0 (by decide) ?_
  refine lv_istore_n (lv' := [(3, .int (nI 0)), (0, .ref qr), (1, .long v)]) hx hb dRo_placeOf_1 rfl hl (by decide) rfl (fun ls hl => ?_)
  refine lv_sipush (v := nI 1024) hx hb dRo_placeOf_2 (by decide) ?_
  refine lv_istore (lv' := [(4, .int (nI 1024)), (3, .int (nI 0)), (0, .ref qr), (1, .long v)]) hx hb dRo_placeOf_5 hl (by decide) rfl (fun ls hl => ?_)
  have lp : ∀ (k_lp : Nat) (pl : Nat) (jj : Nat), (pl ≤ t) → (t < pl + 2 * jj + (1 - jj)) → (jj ≤ 1024) → (isPw jj) → (jj < k_lp) → ∀ (H : Heap) (locs : List Loc) (ls : Array Slot), va_P D vwCl [(qr, .inr (5, [.int (nI n), .int (nI d), .int (nI rn), .long lo, .long hi, .long sl, .long sh, .ref qc, .ref qs])), (qs, .inl (cJ, 1024, .inr (.inl rs)))] H → va_D A [(qr, .inr (5, [.int (nI n), .int (nI d), .int (nI rn), .long lo, .long hi, .long sl, .long sh, .ref qc, .ref qs])), (qs, .inl (cJ, 1024, .inr (.inl rs)))] → va_S A s.heap H locs → lv_has ls 5 [(0, .ref qr), (1, .long v), (3, .int (nI pl)), (4, .int (nI jj))] → W p l e ({ frames := 1, cells := 0, slots := 0, locals := 21 }) s m ([.ref qr, .long v].toArray) below meth c H locs (0) (0) Q (F0 m 7 ls []) := by
    intro k_lp
    induction k_lp with
    | zero => intro pl jj h1 h2 h3 h4 hfu; exact absurd hfu (by omega)
    | succ k_lp ih_lp =>
      intro pl jj h1 h2 h3 h4 hfu H locs ls hP hD hS hl
      have ht1 := ht.1
      refine lv_iload hx hb dRo_placeOf_7 (lv_at hl 3 rfl) ?_
      refine lv_if_le (tgt := 52) hx hb dRo_placeOf_9 (by decide) (fun c9 => ?_) (fun c9 => ?_)
      · have c9 : jj ≤ 0 := (nI_leI (b := 0) (by omega) (by omega)).mp c9
        refine lv_iload_n hx hb dRo_placeOf_52 rfl (lv_at hl 2 rfl) ?_
        exact hret (nI pl) () _ _ _ _ _ _ ⟨congrArg nI (by omega), trivial⟩ (hP.sub [0, 1] rfl) (hD.sub [0, 1] (by decide) rfl) hS (Nat.le_of_ble_eq_true rfl) (Nat.le_of_ble_eq_true rfl) dRo_placeOf_53
      · have c9 : ¬ jj ≤ 0 := fun h => c9 ((nI_leI (b := 0) (by omega) (by omega)).mpr h)
        refine lv_iload_n hx hb dRo_placeOf_12 rfl (lv_at hl 2 rfl) ?_
        refine lv_iload hx hb dRo_placeOf_13 (lv_at hl 3 rfl) ?_
        refine lv_iadd hx hb dRo_placeOf_15 ?_
        refine tp_i (show ((nI pl) + (nI jj)) = (nI (pl + jj)) from nI_add _ _) ?_
        refine lv_aload_n hx hb dRo_placeOf_16 rfl (lv_at hl 0 rfl) ?_
        refine va_get (D := D) (ci := 5) (v := .int (nI d)) (C := "ColumnForms$Row") (T := TRo) (N := 9) hx hb hts inRo hown hK hP 0 rfl rfl 1 (by decide) (hts _ tw_44) (fun _ h9 => h9) rfl dRo_placeOf_17 ?_
        refine lv_icmp_gt (tgt := 43) hx hb dRo_placeOf_20 (by decide) (fun c20 => ?_) (fun c20 => ?_)
        · have c20 : d < (pl + jj) := (nI_ltI (by omega) (by omega)).mp c20
          refine lv_iload hx hb dRo_placeOf_43 (lv_at hl 3 rfl) ?_
          refine lv_iconst (v := nI 1) hx hb dRo_placeOf_45 (by decide) ?_
          refine lv_ishr hx hb dRo_placeOf_46 ?_
          refine tp_i (show ((nI jj) >>> ((nI 1) &&& 31)) = (nI (jj / 2)) from pk_shrN (by omega) _ 1 (by decide)) ?_
          refine lv_istore (lv' := [(4, .int (nI (jj / 2))), (0, .ref qr), (1, .long v), (3, .int (nI pl))]) hx hb dRo_placeOf_47 hl (by decide) rfl (fun ls hl => ?_)
          refine lv_goto (tgt := 7) hx hb dRo_placeOf_49 (by decide) ?_
          exact ih_lp pl (jj / 2) (h1) (by have := rBs_dn ht (p := pl) (j := jj) (by omega) (Or.inl (by omega)); have := (pw_half h4 (by omega)).1; omega) (by omega) ((pw_half h4 (by omega)).2) (by omega) _ _ _ (hP.sub [0, 1] rfl) (hD.sub [0, 1] (by decide) rfl) hS (lv_sub hl [1, 2, 3, 0] rfl)
        · have c20 : ¬ d < (pl + jj) := fun h => c20 ((nI_ltI (by omega) (by omega)).mpr h)
          refine lv_aload_n hx hb dRo_placeOf_23 rfl (lv_at hl 0 rfl) ?_
          refine lv_iload_n hx hb dRo_placeOf_24 rfl (lv_at hl 2 rfl) ?_
          refine lv_iload hx hb dRo_placeOf_25 (lv_at hl 3 rfl) ?_
          refine lv_iadd hx hb dRo_placeOf_27 ?_
          refine tp_i (show ((nI pl) + (nI jj)) = (nI (pl + jj)) from nI_add _ _) ?_
          refine lv_iconst (v := nI 1) hx hb dRo_placeOf_28 (by decide) ?_
          refine lv_isub hx hb dRo_placeOf_29 ?_
          refine tp_i (show ((nI (pl + jj)) - (nI 1)) = (nI ((pl + jj) - 1)) from pk_sub (by omega)) ?_
          refine kc_l (wc := [(qr, .inr (5, [.int (nI n), .int (nI d), .int (nI rn), .long lo, .long hi, .long sl, .long sh, .ref qc, .ref qs])), (qs, .inl (cJ, 1024, .inr (.inl rs)))]) (wr := []) hP hD hS hA [0, 1] [] rfl rfl (by decide) (by decide) (by decide) (fun hPc hDc => va_runV (As := [.int (nI ((pl + jj) - 1))]) (rest := []) ⟨hx, hb, hml, hown, hts⟩ (c_difAt l D cJ cB cI cF qr n d rn lo hi sl sh qc qs rs ((pl + jj) - 1) _ (by omega) (hd)) (cwV 1 hts (wsG_k tw_274 (wsG_k tw_275 (wsG_k tw_276 (wsG_k tw_2 (wsG_c tw_277))))) rfl rfl rfl (by decide +kernel) ⟨Nat.le_of_ble_eq_true rfl, Nat.le_of_ble_eq_true rfl⟩) ⟨cf_blind, va_recv hK hPc (ci := 5) (q0 := 0) rfl rfl, cf_pre hPc hK hDc hWd⟩ rfl rfl hl.1 rfl (lv_room (Nat.le_of_ble_eq_true rfl)) dRo_placeOf_30 ⟨Nat.le_of_ble_eq_true rfl, Nat.le_of_ble_eq_true rfl⟩) (fun r u H locs hw hP hD hS => ?_)
          obtain ⟨rfl, -⟩ := hw
          have hP : va_P D vwCl [(qr, .inr (5, [.int (nI n), .int (nI d), .int (nI rn), .long lo, .long hi, .long sl, .long sh, .ref qc, .ref qs])), (qs, .inl (cJ, 1024, .inr (.inl rs)))] H := hP
          have hD : va_D A [(qr, .inr (5, [.int (nI n), .int (nI d), .int (nI rn), .long lo, .long hi, .long sl, .long sh, .ref qc, .ref qs])), (qs, .inl (cJ, 1024, .inr (.inl rs)))] := hD
          refine lv_lload_n hx hb dRo_placeOf_33 rfl (lv_at hl 1 rfl) ?_
          refine W.lcmp hx hb dRo_placeOf_34 ?_
          refine lv_if_ge (tgt := 43) hx hb dRo_placeOf_35 (by decide) (fun c35 => ?_) (fun c35 => ?_)
          · have c35 : v ≤ (rs ((pl + jj) - 1)) := (lg_cmp_ge _ _).mp c35
            refine lv_iload hx hb dRo_placeOf_43 (lv_at hl 3 rfl) ?_
            refine lv_iconst (v := nI 1) hx hb dRo_placeOf_45 (by decide) ?_
            refine lv_ishr hx hb dRo_placeOf_46 ?_
            refine tp_i (show ((nI jj) >>> ((nI 1) &&& 31)) = (nI (jj / 2)) from pk_shrN (by omega) _ 1 (by decide)) ?_
            refine lv_istore (lv' := [(4, .int (nI (jj / 2))), (0, .ref qr), (1, .long v), (3, .int (nI pl))]) hx hb dRo_placeOf_47 hl (by decide) rfl (fun ls hl => ?_)
            refine lv_goto (tgt := 7) hx hb dRo_placeOf_49 (by decide) ?_
            exact ih_lp pl (jj / 2) (h1) (by have := rBs_dn ht (p := pl) (j := jj) (by omega) (Or.inr (Int64.not_lt.mpr c35)); have := (pw_half h4 (by omega)).1; omega) (by omega) ((pw_half h4 (by omega)).2) (by omega) _ _ _ (hP.sub [0, 1] rfl) (hD.sub [0, 1] (by decide) rfl) hS (lv_sub hl [1, 2, 3, 0] rfl)
          · have c35 : ¬ v ≤ (rs ((pl + jj) - 1)) := fun h => c35 ((lg_cmp_ge _ _).mpr h)
            refine lv_iload_n hx hb dRo_placeOf_38 rfl (lv_at hl 2 rfl) ?_
            refine lv_iload hx hb dRo_placeOf_39 (lv_at hl 3 rfl) ?_
            refine lv_iadd hx hb dRo_placeOf_41 ?_
            refine tp_i (show ((nI pl) + (nI jj)) = (nI (pl + jj)) from nI_add _ _) ?_
            refine lv_istore_n (lv' := [(3, .int (nI (pl + jj))), (0, .ref qr), (1, .long v), (4, .int (nI jj))]) hx hb dRo_placeOf_42 rfl hl (by decide) rfl (fun ls hl => ?_)
            refine lv_iload hx hb dRo_placeOf_43 (lv_at hl 3 rfl) ?_
            refine lv_iconst (v := nI 1) hx hb dRo_placeOf_45 (by decide) ?_
            refine lv_ishr hx hb dRo_placeOf_46 ?_
            refine tp_i (show ((nI jj) >>> ((nI 1) &&& 31)) = (nI (jj / 2)) from pk_shrN (by omega) _ 1 (by decide)) ?_
            refine lv_istore (lv' := [(4, .int (nI (jj / 2))), (3, .int (nI (pl + jj))), (0, .ref qr), (1, .long v)]) hx hb dRo_placeOf_47 hl (by decide) rfl (fun ls hl => ?_)
            refine lv_goto (tgt := 7) hx hb dRo_placeOf_49 (by decide) ?_
            exact ih_lp (pl + jj) (jj / 2) (rBs_up ht (by omega) (by omega) (Int64.not_le.mp c35)) (by have := (pw_half h4 (by omega)).1; omega) (by omega) ((pw_half h4 (by omega)).2) (by omega) _ _ _ (hP.sub [0, 1] rfl) (hD.sub [0, 1] (by decide) rfl) hS (lv_sub hl [2, 3, 1, 0] rfl)
  exact lp (1024 + 1) 0 1024 (Nat.zero_le t) (by omega) (by omega) (Or.inr ⟨10, rfl⟩) (by omega) _ _ _ (hP.sub [0, 1] rfl) (hD.sub [0, 1] (by decide) rfl) hS (lv_sub hl [2, 3, 1, 0] rfl)

set_option maxHeartbeats 4000000 in
set_option maxRecDepth 100000 in
theorem c_empty (l : Launch) (D : va_G) (cJ cB cI cF : ClassId) (qr : Nat) (n : Nat) (d : Nat) (rn : Nat) (lo : Int64) (hi : Int64) (sl : Int64) (sh : Int64) (qc : Nat) (qs : Nat) (sz : Nat) : Met l yRo_empty (Cond.code yRo_empty cRo_empty 1 none :: wsG) ({ frames := 0, cells := 0, slots := 0, locals := 0 }) (va_Pc [.ref qr] (cfPre D (cfT cJ cB cI cF) [(qr, .inr (5, [.int (nI n), .int (nI d), .int (nI rn), .long lo, .long hi, .long sl, .long sh, .ref qc, .ref qs]))] sz)) (va_Qv (fun (u : Unit) => True) (fun u t => cfPost D ((fun (u : Unit) => [(qr, .inr (5, [.int (nI 0), .int (nI 0), .int (nI 0), .long lo, .long hi, .long sl, .long sh, .ref qc, .ref qs]))]) u) (va_A [(qr, .inr (5, [.int (nI n), .int (nI d), .int (nI rn), .long lo, .long hi, .long sl, .long sh, .ref qc, .ref qs]))] sz) t) (va_A [(qr, .inr (5, [.int (nI n), .int (nI d), .int (nI rn), .long lo, .long hi, .long sl, .long sh, .ref qc, .ref qs]))] sz)) 0 0 (va_A [(qr, .inr (5, [.int (nI n), .int (nI d), .int (nI rn), .long lo, .long hi, .long sl, .long sh, .ref qc, .ref qs]))] sz) := by
  refine met_v (cc := cRo_empty) (maxL := 1) (S := Unit) (D := D) (wO := fun (u : Unit) => [(qr, .inr (5, [.int (nI 0), .int (nI 0), .int (nI 0), .long lo, .long hi, .long sl, .long sh, .ref qc, .ref qs]))]) (by decide) (Nat.le_of_ble_eq_true rfl) ?_
  intro p e s m below meth c hx hb hml hown hts hlocks hin hWd A hA hsz hP hK hD hS Q hret ls hl
  have hown : s.vm.findClass "ColumnForms$Row" = some m.cls := hown
  have hl : lv_has ls 1 [(0, .ref qr)] := hl
  have hP : va_P D vwCl [(qr, .inr (5, [.int (nI n), .int (nI d), .int (nI rn), .long lo, .long hi, .long sl, .long sh, .ref qc, .ref qs]))] s.heap := hP
  refine lv_aload_n hx hb dRo_empty_0 rfl (lv_at hl 0 rfl) ?_
  refine lv_iconst (v := nI 0) hx hb dRo_empty_1 (by decide) ?_
  refine va_put (D := D) (ci := 5) (v := .int (nI 0)) (ty := .int) (C := "ColumnForms$Row") (T := TRo) (N := 9) hx hb hts inRo tyRo tyRo_ok nmRo hown hK hP hD hS 0 rfl rfl 0 (by decide) (hts _ tw_40) (fun _ h9 => h9) rfl (by decide +kernel) rfl rfl (Nat.le_of_ble_eq_true rfl) dRo_empty_2 (fun H locs hP hD hS => ?_)
  have hP : va_P D vwCl [(qr, .inr (5, [.int (nI 0), .int (nI d), .int (nI rn), .long lo, .long hi, .long sl, .long sh, .ref qc, .ref qs]))] H := hP
  have hD : va_D A [(qr, .inr (5, [.int (nI 0), .int (nI d), .int (nI rn), .long lo, .long hi, .long sl, .long sh, .ref qc, .ref qs]))] := hD
  refine lv_aload_n hx hb dRo_empty_5 rfl (lv_at hl 0 rfl) ?_
  refine lv_iconst (v := nI 0) hx hb dRo_empty_6 (by decide) ?_
  refine va_put (D := D) (ci := 5) (v := .int (nI 0)) (ty := .int) (C := "ColumnForms$Row") (T := TRo) (N := 9) hx hb hts inRo tyRo tyRo_ok nmRo hown hK hP hD hS 0 rfl rfl 1 (by decide) (hts _ tw_44) (fun _ h9 => h9) rfl (by decide +kernel) rfl rfl (Nat.le_of_ble_eq_true rfl) dRo_empty_7 (fun H locs hP hD hS => ?_)
  have hP : va_P D vwCl [(qr, .inr (5, [.int (nI 0), .int (nI 0), .int (nI rn), .long lo, .long hi, .long sl, .long sh, .ref qc, .ref qs]))] H := hP
  have hD : va_D A [(qr, .inr (5, [.int (nI 0), .int (nI 0), .int (nI rn), .long lo, .long hi, .long sl, .long sh, .ref qc, .ref qs]))] := hD
  refine lv_aload_n hx hb dRo_empty_10 rfl (lv_at hl 0 rfl) ?_
  refine lv_iconst (v := nI 0) hx hb dRo_empty_11 (by decide) ?_
  refine va_put (D := D) (ci := 5) (v := .int (nI 0)) (ty := .int) (C := "ColumnForms$Row") (T := TRo) (N := 9) hx hb hts inRo tyRo tyRo_ok nmRo hown hK hP hD hS 0 rfl rfl 2 (by decide) (hts _ tw_46) (fun _ h9 => h9) rfl (by decide +kernel) rfl rfl (Nat.le_of_ble_eq_true rfl) dRo_empty_12 (fun H locs hP hD hS => ?_)
  have hP : va_P D vwCl [(qr, .inr (5, [.int (nI 0), .int (nI 0), .int (nI 0), .long lo, .long hi, .long sl, .long sh, .ref qc, .ref qs]))] H := hP
  have hD : va_D A [(qr, .inr (5, [.int (nI 0), .int (nI 0), .int (nI 0), .long lo, .long hi, .long sl, .long sh, .ref qc, .ref qs]))] := hD
  exact hret () _ _ _ _ _ _ trivial (hP.sub [0] rfl) (hD.sub [0] (by decide) rfl) hS (Nat.le_of_ble_eq_true rfl) (Nat.le_of_ble_eq_true rfl) dRo_empty_15

set_option maxHeartbeats 4000000 in
set_option maxRecDepth 100000 in
theorem c_noteFirst (l : Launch) (D : va_G) (cJ cB cI cF : ClassId) (qr : Nat) (n : Nat) (d : Nat) (rn : Nat) (lo : Int64) (hi : Int64) (sl : Int64) (sh : Int64) (qc : Nat) (qs : Nat) (v : Int64) (sz : Nat) : Met l yRo_noteFirst (Cond.code yRo_noteFirst cRo_noteFirst 3 none :: wsG) ({ frames := 0, cells := 0, slots := 0, locals := 0 }) (va_Pc [.ref qr, .long v] (cfPre D (cfT cJ cB cI cF) [(qr, .inr (5, [.int (nI n), .int (nI d), .int (nI rn), .long lo, .long hi, .long sl, .long sh, .ref qc, .ref qs]))] sz)) (va_Qv (fun (u : Unit) => True) (fun u t => cfPost D ((fun (u : Unit) => [(qr, .inr (5, [.int (nI n), .int (nI d), .int (nI 1), .long v, .long v, .long 0, .long 0, .ref qc, .ref qs]))]) u) (va_A [(qr, .inr (5, [.int (nI n), .int (nI d), .int (nI rn), .long lo, .long hi, .long sl, .long sh, .ref qc, .ref qs]))] sz) t) (va_A [(qr, .inr (5, [.int (nI n), .int (nI d), .int (nI rn), .long lo, .long hi, .long sl, .long sh, .ref qc, .ref qs]))] sz)) 0 0 (va_A [(qr, .inr (5, [.int (nI n), .int (nI d), .int (nI rn), .long lo, .long hi, .long sl, .long sh, .ref qc, .ref qs]))] sz) := by
  refine met_v (cc := cRo_noteFirst) (maxL := 3) (S := Unit) (D := D) (wO := fun (u : Unit) => [(qr, .inr (5, [.int (nI n), .int (nI d), .int (nI 1), .long v, .long v, .long 0, .long 0, .ref qc, .ref qs]))]) (by decide) (Nat.le_of_ble_eq_true rfl) ?_
  intro p e s m below meth c hx hb hml hown hts hlocks hin hWd A hA hsz hP hK hD hS Q hret ls hl
  have hown : s.vm.findClass "ColumnForms$Row" = some m.cls := hown
  have hl : lv_has ls 3 [(0, .ref qr), (1, .long v)] := hl
  have hP : va_P D vwCl [(qr, .inr (5, [.int (nI n), .int (nI d), .int (nI rn), .long lo, .long hi, .long sl, .long sh, .ref qc, .ref qs]))] s.heap := hP
  refine lv_aload_n hx hb dRo_noteFirst_0 rfl (lv_at hl 0 rfl) ?_
  refine lv_iconst (v := nI 1) hx hb dRo_noteFirst_1 (by decide) ?_
  refine va_put (D := D) (ci := 5) (v := .int (nI 1)) (ty := .int) (C := "ColumnForms$Row") (T := TRo) (N := 9) hx hb hts inRo tyRo tyRo_ok nmRo hown hK hP hD hS 0 rfl rfl 2 (by decide) (hts _ tw_46) (fun _ h9 => h9) rfl (by decide +kernel) rfl rfl (Nat.le_of_ble_eq_true rfl) dRo_noteFirst_2 (fun H locs hP hD hS => ?_)
  have hP : va_P D vwCl [(qr, .inr (5, [.int (nI n), .int (nI d), .int (nI 1), .long lo, .long hi, .long sl, .long sh, .ref qc, .ref qs]))] H := hP
  have hD : va_D A [(qr, .inr (5, [.int (nI n), .int (nI d), .int (nI 1), .long lo, .long hi, .long sl, .long sh, .ref qc, .ref qs]))] := hD
  refine lv_aload_n hx hb dRo_noteFirst_5 rfl (lv_at hl 0 rfl) ?_
  refine lv_lload_n hx hb dRo_noteFirst_6 rfl (lv_at hl 1 rfl) ?_
  refine va_put (D := D) (ci := 5) (v := .long v) (ty := .long) (C := "ColumnForms$Row") (T := TRo) (N := 9) hx hb hts inRo tyRo tyRo_ok nmRo hown hK hP hD hS 0 rfl rfl 3 (by decide) (hts _ tw_48) (fun _ h9 => h9) rfl (by decide +kernel) rfl rfl (Nat.le_of_ble_eq_true rfl) dRo_noteFirst_7 (fun H locs hP hD hS => ?_)
  have hP : va_P D vwCl [(qr, .inr (5, [.int (nI n), .int (nI d), .int (nI 1), .long v, .long hi, .long sl, .long sh, .ref qc, .ref qs]))] H := hP
  have hD : va_D A [(qr, .inr (5, [.int (nI n), .int (nI d), .int (nI 1), .long v, .long hi, .long sl, .long sh, .ref qc, .ref qs]))] := hD
  refine lv_aload_n hx hb dRo_noteFirst_10 rfl (lv_at hl 0 rfl) ?_
  refine lv_lload_n hx hb dRo_noteFirst_11 rfl (lv_at hl 1 rfl) ?_
  refine va_put (D := D) (ci := 5) (v := .long v) (ty := .long) (C := "ColumnForms$Row") (T := TRo) (N := 9) hx hb hts inRo tyRo tyRo_ok nmRo hown hK hP hD hS 0 rfl rfl 4 (by decide) (hts _ tw_50) (fun _ h9 => h9) rfl (by decide +kernel) rfl rfl (Nat.le_of_ble_eq_true rfl) dRo_noteFirst_12 (fun H locs hP hD hS => ?_)
  have hP : va_P D vwCl [(qr, .inr (5, [.int (nI n), .int (nI d), .int (nI 1), .long v, .long v, .long sl, .long sh, .ref qc, .ref qs]))] H := hP
  have hD : va_D A [(qr, .inr (5, [.int (nI n), .int (nI d), .int (nI 1), .long v, .long v, .long sl, .long sh, .ref qc, .ref qs]))] := hD
  refine lv_aload_n hx hb dRo_noteFirst_15 rfl (lv_at hl 0 rfl) ?_
  refine lv_lconst (v := 0) hx hb dRo_noteFirst_16 (by decide) ?_
  refine va_put (D := D) (ci := 5) (v := .long 0) (ty := .long) (C := "ColumnForms$Row") (T := TRo) (N := 9) hx hb hts inRo tyRo tyRo_ok nmRo hown hK hP hD hS 0 rfl rfl 5 (by decide) (hts _ tw_52) (fun _ h9 => h9) rfl (by decide +kernel) rfl rfl (Nat.le_of_ble_eq_true rfl) dRo_noteFirst_17 (fun H locs hP hD hS => ?_)
  have hP : va_P D vwCl [(qr, .inr (5, [.int (nI n), .int (nI d), .int (nI 1), .long v, .long v, .long 0, .long sh, .ref qc, .ref qs]))] H := hP
  have hD : va_D A [(qr, .inr (5, [.int (nI n), .int (nI d), .int (nI 1), .long v, .long v, .long 0, .long sh, .ref qc, .ref qs]))] := hD
  refine lv_aload_n hx hb dRo_noteFirst_20 rfl (lv_at hl 0 rfl) ?_
  refine lv_lconst (v := 0) hx hb dRo_noteFirst_21 (by decide) ?_
  refine va_put (D := D) (ci := 5) (v := .long 0) (ty := .long) (C := "ColumnForms$Row") (T := TRo) (N := 9) hx hb hts inRo tyRo tyRo_ok nmRo hown hK hP hD hS 0 rfl rfl 6 (by decide) (hts _ tw_54) (fun _ h9 => h9) rfl (by decide +kernel) rfl rfl (Nat.le_of_ble_eq_true rfl) dRo_noteFirst_22 (fun H locs hP hD hS => ?_)
  have hP : va_P D vwCl [(qr, .inr (5, [.int (nI n), .int (nI d), .int (nI 1), .long v, .long v, .long 0, .long 0, .ref qc, .ref qs]))] H := hP
  have hD : va_D A [(qr, .inr (5, [.int (nI n), .int (nI d), .int (nI 1), .long v, .long v, .long 0, .long 0, .ref qc, .ref qs]))] := hD
  exact hret () _ _ _ _ _ _ trivial (hP.sub [0] rfl) (hD.sub [0] (by decide) rfl) hS (Nat.le_of_ble_eq_true rfl) (Nat.le_of_ble_eq_true rfl) dRo_noteFirst_25

set_option maxHeartbeats 4000000 in
set_option maxRecDepth 100000 in
theorem c_noteNext (l : Launch) (D : va_G) (cJ cB cI cF : ClassId) (qr : Nat) (n : Nat) (d : Nat) (rn : Nat) (lo : Int64) (hi : Int64) (sl : Int64) (sh : Int64) (qc : Nat) (qs : Nat) (v : Int64) (st : Int64) (sz : Nat) (hn0 : 0 < n) (hn : n ≤ 1024) (hr : rn ≤ 1024) : Met l yRo_noteNext (Cond.code yRo_noteNext cRo_noteNext 5 none :: wsG) ({ frames := 1, cells := 0, slots := 0, locals := 16 }) (va_Pc [.ref qr, .long v, .long st] (cfPre D (cfT cJ cB cI cF) [(qr, .inr (5, [.int (nI n), .int (nI d), .int (nI rn), .long lo, .long hi, .long sl, .long sh, .ref qc, .ref qs]))] sz)) (va_Qv (fun (u : Nat × Int64 × Int64) => (u.1 = rn + (if st = 0 then 0 else 1)) ∧ (u.2.1 = if n = 1 then st else lMin sl st) ∧ (u.2.2 = if n = 1 then st else lMax sh st) ∧ True) (fun u t => cfPost D ((fun (u : Nat × Int64 × Int64) => [(qr, .inr (5, [.int (nI n), .int (nI d), .int (nI u.1), .long (lMin lo v), .long (lMax hi v), .long u.2.1, .long u.2.2, .ref qc, .ref qs]))]) u) (va_A [(qr, .inr (5, [.int (nI n), .int (nI d), .int (nI rn), .long lo, .long hi, .long sl, .long sh, .ref qc, .ref qs]))] sz) t) (va_A [(qr, .inr (5, [.int (nI n), .int (nI d), .int (nI rn), .long lo, .long hi, .long sl, .long sh, .ref qc, .ref qs]))] sz)) 0 0 (va_A [(qr, .inr (5, [.int (nI n), .int (nI d), .int (nI rn), .long lo, .long hi, .long sl, .long sh, .ref qc, .ref qs]))] sz) := by
  refine met_v (cc := cRo_noteNext) (maxL := 5) (S := Nat × Int64 × Int64) (D := D) (wO := fun (u : Nat × Int64 × Int64) => [(qr, .inr (5, [.int (nI n), .int (nI d), .int (nI u.1), .long (lMin lo v), .long (lMax hi v), .long u.2.1, .long u.2.2, .ref qc, .ref qs]))]) (by decide) (Nat.le_of_ble_eq_true rfl) ?_
  intro p e s m below meth c hx hb hml hown hts hlocks hin hWd A hA hsz hP hK hD hS Q hret ls hl
  have hown : s.vm.findClass "ColumnForms$Row" = some m.cls := hown
  have hl : lv_has ls 5 [(0, .ref qr), (1, .long v), (3, .long st)] := hl
  have hP : va_P D vwCl [(qr, .inr (5, [.int (nI n), .int (nI d), .int (nI rn), .long lo, .long hi, .long sl, .long sh, .ref qc, .ref qs]))] s.heap := hP
  refine lv_lload_n hx hb dRo_noteNext_0 rfl (lv_at hl 2 rfl) ?_
  refine lv_lconst (v := 0) hx hb dRo_noteNext_1 (by decide) ?_
  refine W.lcmp hx hb dRo_noteNext_2 ?_
  refine lv_if_eq (tgt := 16) hx hb dRo_noteNext_3 (by decide) (fun c3 => ?_) (fun c3 => ?_)
  · have c3 : st = 0 := (lg_cmp_eq _ _).mp c3
    refine lv_aload_n hx hb dRo_noteNext_16 rfl (lv_at hl 0 rfl) ?_
    refine lv_aload_n hx hb dRo_noteNext_17 rfl (lv_at hl 0 rfl) ?_
    refine va_get (D := D) (ci := 5) (v := .long lo) (C := "ColumnForms$Row") (T := TRo) (N := 9) hx hb hts inRo hown hK hP 0 rfl rfl 3 (by decide) (hts _ tw_48) (fun _ h9 => h9) rfl dRo_noteNext_18 ?_
    refine lv_lload_n hx hb dRo_noteNext_21 rfl (lv_at hl 1 rfl) ?_
    refine va_mmin_long hx hb (hml.trans hl.1.symm) hown (hts _ tw_264) (hts _ tw_265) (hts _ tw_15) (hts _ tw_266) (Nat.le_of_ble_eq_true rfl) (Nat.le_of_ble_eq_true rfl) (Nat.le_of_ble_eq_true rfl) (Nat.le_of_ble_eq_true rfl) dRo_noteNext_22 ?_
    refine tp_l (show (if v < lo then v else lo) = (lMin lo v) from rfl) ?_
    refine va_put (D := D) (ci := 5) (v := .long (lMin lo v)) (ty := .long) (C := "ColumnForms$Row") (T := TRo) (N := 9) hx hb hts inRo tyRo tyRo_ok nmRo hown hK hP hD hS 0 rfl rfl 3 (by decide) (hts _ tw_48) (fun _ h9 => h9) rfl (by decide +kernel) rfl rfl (Nat.le_of_ble_eq_true rfl) dRo_noteNext_25 (fun H locs hP hD hS => ?_)
    have hP : va_P D vwCl [(qr, .inr (5, [.int (nI n), .int (nI d), .int (nI rn), .long (lMin lo v), .long hi, .long sl, .long sh, .ref qc, .ref qs]))] H := hP
    have hD : va_D A [(qr, .inr (5, [.int (nI n), .int (nI d), .int (nI rn), .long (lMin lo v), .long hi, .long sl, .long sh, .ref qc, .ref qs]))] := hD
    refine lv_aload_n hx hb dRo_noteNext_28 rfl (lv_at hl 0 rfl) ?_
    refine lv_aload_n hx hb dRo_noteNext_29 rfl (lv_at hl 0 rfl) ?_
    refine va_get (D := D) (ci := 5) (v := .long hi) (C := "ColumnForms$Row") (T := TRo) (N := 9) hx hb hts inRo hown hK hP 0 rfl rfl 4 (by decide) (hts _ tw_50) (fun _ h9 => h9) rfl dRo_noteNext_30 ?_
    refine lv_lload_n hx hb dRo_noteNext_33 rfl (lv_at hl 1 rfl) ?_
    refine va_mmax_long hx hb (hml.trans hl.1.symm) hown (hts _ tw_267) (hts _ tw_268) (hts _ tw_15) (hts _ tw_269) (Nat.le_of_ble_eq_true rfl) (Nat.le_of_ble_eq_true rfl) (Nat.le_of_ble_eq_true rfl) (Nat.le_of_ble_eq_true rfl) dRo_noteNext_34 ?_
    refine tp_l (show (if v < hi then hi else v) = (lMax hi v) from rfl) ?_
    refine va_put (D := D) (ci := 5) (v := .long (lMax hi v)) (ty := .long) (C := "ColumnForms$Row") (T := TRo) (N := 9) hx hb hts inRo tyRo tyRo_ok nmRo hown hK hP hD hS 0 rfl rfl 4 (by decide) (hts _ tw_50) (fun _ h9 => h9) rfl (by decide +kernel) rfl rfl (Nat.le_of_ble_eq_true rfl) dRo_noteNext_37 (fun H locs hP hD hS => ?_)
    have hP : va_P D vwCl [(qr, .inr (5, [.int (nI n), .int (nI d), .int (nI rn), .long (lMin lo v), .long (lMax hi v), .long sl, .long sh, .ref qc, .ref qs]))] H := hP
    have hD : va_D A [(qr, .inr (5, [.int (nI n), .int (nI d), .int (nI rn), .long (lMin lo v), .long (lMax hi v), .long sl, .long sh, .ref qc, .ref qs]))] := hD
    refine lv_aload_n hx hb dRo_noteNext_40 rfl (lv_at hl 0 rfl) ?_
    refine lv_aload_n hx hb dRo_noteNext_41 rfl (lv_at hl 0 rfl) ?_
    refine va_get (D := D) (ci := 5) (v := .int (nI n)) (C := "ColumnForms$Row") (T := TRo) (N := 9) hx hb hts inRo hown hK hP 0 rfl rfl 0 (by decide) (hts _ tw_40) (fun _ h9 => h9) rfl dRo_noteNext_42 ?_
    refine lv_iconst (v := nI 1) hx hb dRo_noteNext_45 (by decide) ?_
    refine lv_icmp_ne (tgt := 53) hx hb dRo_noteNext_46 (by decide) (fun c46 => ?_) (fun c46 => ?_)
    · have c46 : ¬ n = 1 := fun h => c46 ((nI_eq (by omega) (by omega)).mpr h)
      refine lv_aload_n hx hb dRo_noteNext_53 rfl (lv_at hl 0 rfl) ?_
      refine va_get (D := D) (ci := 5) (v := .long sl) (C := "ColumnForms$Row") (T := TRo) (N := 9) hx hb hts inRo hown hK hP 0 rfl rfl 5 (by decide) (hts _ tw_52) (fun _ h9 => h9) rfl dRo_noteNext_54 ?_
      refine lv_lload_n hx hb dRo_noteNext_57 rfl (lv_at hl 2 rfl) ?_
      refine va_mmin_long hx hb (hml.trans hl.1.symm) hown (hts _ tw_264) (hts _ tw_265) (hts _ tw_15) (hts _ tw_266) (Nat.le_of_ble_eq_true rfl) (Nat.le_of_ble_eq_true rfl) (Nat.le_of_ble_eq_true rfl) (Nat.le_of_ble_eq_true rfl) dRo_noteNext_58 ?_
      refine tp_l (show (if st < sl then st else sl) = (lMin sl st) from rfl) ?_
      refine va_put (D := D) (ci := 5) (v := .long (lMin sl st)) (ty := .long) (C := "ColumnForms$Row") (T := TRo) (N := 9) hx hb hts inRo tyRo tyRo_ok nmRo hown hK hP hD hS 0 rfl rfl 5 (by decide) (hts _ tw_52) (fun _ h9 => h9) rfl (by decide +kernel) rfl rfl (Nat.le_of_ble_eq_true rfl) dRo_noteNext_61 (fun H locs hP hD hS => ?_)
      have hP : va_P D vwCl [(qr, .inr (5, [.int (nI n), .int (nI d), .int (nI rn), .long (lMin lo v), .long (lMax hi v), .long (lMin sl st), .long sh, .ref qc, .ref qs]))] H := hP
      have hD : va_D A [(qr, .inr (5, [.int (nI n), .int (nI d), .int (nI rn), .long (lMin lo v), .long (lMax hi v), .long (lMin sl st), .long sh, .ref qc, .ref qs]))] := hD
      refine lv_aload_n hx hb dRo_noteNext_64 rfl (lv_at hl 0 rfl) ?_
      refine lv_aload_n hx hb dRo_noteNext_65 rfl (lv_at hl 0 rfl) ?_
      refine va_get (D := D) (ci := 5) (v := .int (nI n)) (C := "ColumnForms$Row") (T := TRo) (N := 9) hx hb hts inRo hown hK hP 0 rfl rfl 0 (by decide) (hts _ tw_40) (fun _ h9 => h9) rfl dRo_noteNext_66 ?_
      refine lv_iconst (v := nI 1) hx hb dRo_noteNext_69 (by decide) ?_
      refine lv_icmp_ne (tgt := 77) hx hb dRo_noteNext_70 (by decide) (fun c70 => ?_) (fun c70 => ?_)
      · have c70 : ¬ n = 1 := fun h => c70 ((nI_eq (by omega) (by omega)).mpr h)
        refine lv_aload_n hx hb dRo_noteNext_77 rfl (lv_at hl 0 rfl) ?_
        refine va_get (D := D) (ci := 5) (v := .long sh) (C := "ColumnForms$Row") (T := TRo) (N := 9) hx hb hts inRo hown hK hP 0 rfl rfl 6 (by decide) (hts _ tw_54) (fun _ h9 => h9) rfl dRo_noteNext_78 ?_
        refine lv_lload_n hx hb dRo_noteNext_81 rfl (lv_at hl 2 rfl) ?_
        refine va_mmax_long hx hb (hml.trans hl.1.symm) hown (hts _ tw_267) (hts _ tw_268) (hts _ tw_15) (hts _ tw_269) (Nat.le_of_ble_eq_true rfl) (Nat.le_of_ble_eq_true rfl) (Nat.le_of_ble_eq_true rfl) (Nat.le_of_ble_eq_true rfl) dRo_noteNext_82 ?_
        refine tp_l (show (if st < sh then sh else st) = (lMax sh st) from rfl) ?_
        refine va_put (D := D) (ci := 5) (v := .long (lMax sh st)) (ty := .long) (C := "ColumnForms$Row") (T := TRo) (N := 9) hx hb hts inRo tyRo tyRo_ok nmRo hown hK hP hD hS 0 rfl rfl 6 (by decide) (hts _ tw_54) (fun _ h9 => h9) rfl (by decide +kernel) rfl rfl (Nat.le_of_ble_eq_true rfl) dRo_noteNext_85 (fun H locs hP hD hS => ?_)
        have hP : va_P D vwCl [(qr, .inr (5, [.int (nI n), .int (nI d), .int (nI rn), .long (lMin lo v), .long (lMax hi v), .long (lMin sl st), .long (lMax sh st), .ref qc, .ref qs]))] H := hP
        have hD : va_D A [(qr, .inr (5, [.int (nI n), .int (nI d), .int (nI rn), .long (lMin lo v), .long (lMax hi v), .long (lMin sl st), .long (lMax sh st), .ref qc, .ref qs]))] := hD
        exact hret (rn, lMin sl st, lMax sh st) _ _ _ _ _ _ ⟨by rw [if_pos c3, Nat.add_zero], by rw [if_neg c46], by rw [if_neg c46], trivial⟩ (hP.sub [0] rfl) (hD.sub [0] (by decide) rfl) hS (Nat.le_of_ble_eq_true rfl) (Nat.le_of_ble_eq_true rfl) dRo_noteNext_88
      · have c70 : n = 1 := (nI_eq (by omega) (by omega)).mp c70
        exact absurd c70 c46
    · have c46 : n = 1 := (nI_eq (by omega) (by omega)).mp c46
      refine lv_lload_n hx hb dRo_noteNext_49 rfl (lv_at hl 2 rfl) ?_
      refine lv_goto (tgt := 61) hx hb dRo_noteNext_50 (by decide) ?_
      refine va_put (D := D) (ci := 5) (v := .long st) (ty := .long) (C := "ColumnForms$Row") (T := TRo) (N := 9) hx hb hts inRo tyRo tyRo_ok nmRo hown hK hP hD hS 0 rfl rfl 5 (by decide) (hts _ tw_52) (fun _ h9 => h9) rfl (by decide +kernel) rfl rfl (Nat.le_of_ble_eq_true rfl) dRo_noteNext_61 (fun H locs hP hD hS => ?_)
      have hP : va_P D vwCl [(qr, .inr (5, [.int (nI n), .int (nI d), .int (nI rn), .long (lMin lo v), .long (lMax hi v), .long st, .long sh, .ref qc, .ref qs]))] H := hP
      have hD : va_D A [(qr, .inr (5, [.int (nI n), .int (nI d), .int (nI rn), .long (lMin lo v), .long (lMax hi v), .long st, .long sh, .ref qc, .ref qs]))] := hD
      refine lv_aload_n hx hb dRo_noteNext_64 rfl (lv_at hl 0 rfl) ?_
      refine lv_aload_n hx hb dRo_noteNext_65 rfl (lv_at hl 0 rfl) ?_
      refine va_get (D := D) (ci := 5) (v := .int (nI n)) (C := "ColumnForms$Row") (T := TRo) (N := 9) hx hb hts inRo hown hK hP 0 rfl rfl 0 (by decide) (hts _ tw_40) (fun _ h9 => h9) rfl dRo_noteNext_66 ?_
      refine lv_iconst (v := nI 1) hx hb dRo_noteNext_69 (by decide) ?_
      refine lv_icmp_ne (tgt := 77) hx hb dRo_noteNext_70 (by decide) (fun c70 => ?_) (fun c70 => ?_)
      · have c70 : ¬ n = 1 := fun h => c70 ((nI_eq (by omega) (by omega)).mpr h)
        exact absurd c46 c70
      · have c70 : n = 1 := (nI_eq (by omega) (by omega)).mp c70
        refine lv_lload_n hx hb dRo_noteNext_73 rfl (lv_at hl 2 rfl) ?_
        refine lv_goto (tgt := 85) hx hb dRo_noteNext_74 (by decide) ?_
        refine va_put (D := D) (ci := 5) (v := .long st) (ty := .long) (C := "ColumnForms$Row") (T := TRo) (N := 9) hx hb hts inRo tyRo tyRo_ok nmRo hown hK hP hD hS 0 rfl rfl 6 (by decide) (hts _ tw_54) (fun _ h9 => h9) rfl (by decide +kernel) rfl rfl (Nat.le_of_ble_eq_true rfl) dRo_noteNext_85 (fun H locs hP hD hS => ?_)
        have hP : va_P D vwCl [(qr, .inr (5, [.int (nI n), .int (nI d), .int (nI rn), .long (lMin lo v), .long (lMax hi v), .long st, .long st, .ref qc, .ref qs]))] H := hP
        have hD : va_D A [(qr, .inr (5, [.int (nI n), .int (nI d), .int (nI rn), .long (lMin lo v), .long (lMax hi v), .long st, .long st, .ref qc, .ref qs]))] := hD
        exact hret (rn, st, st) _ _ _ _ _ _ ⟨by rw [if_pos c3, Nat.add_zero], by rw [if_pos c46], by rw [if_pos c46], trivial⟩ (hP.sub [0] rfl) (hD.sub [0] (by decide) rfl) hS (Nat.le_of_ble_eq_true rfl) (Nat.le_of_ble_eq_true rfl) dRo_noteNext_88
  · have c3 : ¬ st = 0 := fun h => c3 ((lg_cmp_eq _ _).mpr h)
    refine lv_aload_n hx hb dRo_noteNext_6 rfl (lv_at hl 0 rfl) ?_
    refine lv_dup hx hb dRo_noteNext_7 rfl ?_
    refine va_get (D := D) (ci := 5) (v := .int (nI rn)) (C := "ColumnForms$Row") (T := TRo) (N := 9) hx hb hts inRo hown hK hP 0 rfl rfl 2 (by decide) (hts _ tw_46) (fun _ h9 => h9) rfl dRo_noteNext_8 ?_
    refine lv_iconst (v := nI 1) hx hb dRo_noteNext_11 (by decide) ?_
    refine lv_iadd hx hb dRo_noteNext_12 ?_
    refine tp_i (show ((nI rn) + (nI 1)) = (nI (rn + 1)) from nI_add _ _) ?_
    refine va_put (D := D) (ci := 5) (v := .int (nI (rn + 1))) (ty := .int) (C := "ColumnForms$Row") (T := TRo) (N := 9) hx hb hts inRo tyRo tyRo_ok nmRo hown hK hP hD hS 0 rfl rfl 2 (by decide) (hts _ tw_46) (fun _ h9 => h9) rfl (by decide +kernel) rfl rfl (Nat.le_of_ble_eq_true rfl) dRo_noteNext_13 (fun H locs hP hD hS => ?_)
    have hP : va_P D vwCl [(qr, .inr (5, [.int (nI n), .int (nI d), .int (nI (rn + 1)), .long lo, .long hi, .long sl, .long sh, .ref qc, .ref qs]))] H := hP
    have hD : va_D A [(qr, .inr (5, [.int (nI n), .int (nI d), .int (nI (rn + 1)), .long lo, .long hi, .long sl, .long sh, .ref qc, .ref qs]))] := hD
    refine lv_aload_n hx hb dRo_noteNext_16 rfl (lv_at hl 0 rfl) ?_
    refine lv_aload_n hx hb dRo_noteNext_17 rfl (lv_at hl 0 rfl) ?_
    refine va_get (D := D) (ci := 5) (v := .long lo) (C := "ColumnForms$Row") (T := TRo) (N := 9) hx hb hts inRo hown hK hP 0 rfl rfl 3 (by decide) (hts _ tw_48) (fun _ h9 => h9) rfl dRo_noteNext_18 ?_
    refine lv_lload_n hx hb dRo_noteNext_21 rfl (lv_at hl 1 rfl) ?_
    refine va_mmin_long hx hb (hml.trans hl.1.symm) hown (hts _ tw_264) (hts _ tw_265) (hts _ tw_15) (hts _ tw_266) (Nat.le_of_ble_eq_true rfl) (Nat.le_of_ble_eq_true rfl) (Nat.le_of_ble_eq_true rfl) (Nat.le_of_ble_eq_true rfl) dRo_noteNext_22 ?_
    refine tp_l (show (if v < lo then v else lo) = (lMin lo v) from rfl) ?_
    refine va_put (D := D) (ci := 5) (v := .long (lMin lo v)) (ty := .long) (C := "ColumnForms$Row") (T := TRo) (N := 9) hx hb hts inRo tyRo tyRo_ok nmRo hown hK hP hD hS 0 rfl rfl 3 (by decide) (hts _ tw_48) (fun _ h9 => h9) rfl (by decide +kernel) rfl rfl (Nat.le_of_ble_eq_true rfl) dRo_noteNext_25 (fun H locs hP hD hS => ?_)
    have hP : va_P D vwCl [(qr, .inr (5, [.int (nI n), .int (nI d), .int (nI (rn + 1)), .long (lMin lo v), .long hi, .long sl, .long sh, .ref qc, .ref qs]))] H := hP
    have hD : va_D A [(qr, .inr (5, [.int (nI n), .int (nI d), .int (nI (rn + 1)), .long (lMin lo v), .long hi, .long sl, .long sh, .ref qc, .ref qs]))] := hD
    refine lv_aload_n hx hb dRo_noteNext_28 rfl (lv_at hl 0 rfl) ?_
    refine lv_aload_n hx hb dRo_noteNext_29 rfl (lv_at hl 0 rfl) ?_
    refine va_get (D := D) (ci := 5) (v := .long hi) (C := "ColumnForms$Row") (T := TRo) (N := 9) hx hb hts inRo hown hK hP 0 rfl rfl 4 (by decide) (hts _ tw_50) (fun _ h9 => h9) rfl dRo_noteNext_30 ?_
    refine lv_lload_n hx hb dRo_noteNext_33 rfl (lv_at hl 1 rfl) ?_
    refine va_mmax_long hx hb (hml.trans hl.1.symm) hown (hts _ tw_267) (hts _ tw_268) (hts _ tw_15) (hts _ tw_269) (Nat.le_of_ble_eq_true rfl) (Nat.le_of_ble_eq_true rfl) (Nat.le_of_ble_eq_true rfl) (Nat.le_of_ble_eq_true rfl) dRo_noteNext_34 ?_
    refine tp_l (show (if v < hi then hi else v) = (lMax hi v) from rfl) ?_
    refine va_put (D := D) (ci := 5) (v := .long (lMax hi v)) (ty := .long) (C := "ColumnForms$Row") (T := TRo) (N := 9) hx hb hts inRo tyRo tyRo_ok nmRo hown hK hP hD hS 0 rfl rfl 4 (by decide) (hts _ tw_50) (fun _ h9 => h9) rfl (by decide +kernel) rfl rfl (Nat.le_of_ble_eq_true rfl) dRo_noteNext_37 (fun H locs hP hD hS => ?_)
    have hP : va_P D vwCl [(qr, .inr (5, [.int (nI n), .int (nI d), .int (nI (rn + 1)), .long (lMin lo v), .long (lMax hi v), .long sl, .long sh, .ref qc, .ref qs]))] H := hP
    have hD : va_D A [(qr, .inr (5, [.int (nI n), .int (nI d), .int (nI (rn + 1)), .long (lMin lo v), .long (lMax hi v), .long sl, .long sh, .ref qc, .ref qs]))] := hD
    refine lv_aload_n hx hb dRo_noteNext_40 rfl (lv_at hl 0 rfl) ?_
    refine lv_aload_n hx hb dRo_noteNext_41 rfl (lv_at hl 0 rfl) ?_
    refine va_get (D := D) (ci := 5) (v := .int (nI n)) (C := "ColumnForms$Row") (T := TRo) (N := 9) hx hb hts inRo hown hK hP 0 rfl rfl 0 (by decide) (hts _ tw_40) (fun _ h9 => h9) rfl dRo_noteNext_42 ?_
    refine lv_iconst (v := nI 1) hx hb dRo_noteNext_45 (by decide) ?_
    refine lv_icmp_ne (tgt := 53) hx hb dRo_noteNext_46 (by decide) (fun c46 => ?_) (fun c46 => ?_)
    · have c46 : ¬ n = 1 := fun h => c46 ((nI_eq (by omega) (by omega)).mpr h)
      refine lv_aload_n hx hb dRo_noteNext_53 rfl (lv_at hl 0 rfl) ?_
      refine va_get (D := D) (ci := 5) (v := .long sl) (C := "ColumnForms$Row") (T := TRo) (N := 9) hx hb hts inRo hown hK hP 0 rfl rfl 5 (by decide) (hts _ tw_52) (fun _ h9 => h9) rfl dRo_noteNext_54 ?_
      refine lv_lload_n hx hb dRo_noteNext_57 rfl (lv_at hl 2 rfl) ?_
      refine va_mmin_long hx hb (hml.trans hl.1.symm) hown (hts _ tw_264) (hts _ tw_265) (hts _ tw_15) (hts _ tw_266) (Nat.le_of_ble_eq_true rfl) (Nat.le_of_ble_eq_true rfl) (Nat.le_of_ble_eq_true rfl) (Nat.le_of_ble_eq_true rfl) dRo_noteNext_58 ?_
      refine tp_l (show (if st < sl then st else sl) = (lMin sl st) from rfl) ?_
      refine va_put (D := D) (ci := 5) (v := .long (lMin sl st)) (ty := .long) (C := "ColumnForms$Row") (T := TRo) (N := 9) hx hb hts inRo tyRo tyRo_ok nmRo hown hK hP hD hS 0 rfl rfl 5 (by decide) (hts _ tw_52) (fun _ h9 => h9) rfl (by decide +kernel) rfl rfl (Nat.le_of_ble_eq_true rfl) dRo_noteNext_61 (fun H locs hP hD hS => ?_)
      have hP : va_P D vwCl [(qr, .inr (5, [.int (nI n), .int (nI d), .int (nI (rn + 1)), .long (lMin lo v), .long (lMax hi v), .long (lMin sl st), .long sh, .ref qc, .ref qs]))] H := hP
      have hD : va_D A [(qr, .inr (5, [.int (nI n), .int (nI d), .int (nI (rn + 1)), .long (lMin lo v), .long (lMax hi v), .long (lMin sl st), .long sh, .ref qc, .ref qs]))] := hD
      refine lv_aload_n hx hb dRo_noteNext_64 rfl (lv_at hl 0 rfl) ?_
      refine lv_aload_n hx hb dRo_noteNext_65 rfl (lv_at hl 0 rfl) ?_
      refine va_get (D := D) (ci := 5) (v := .int (nI n)) (C := "ColumnForms$Row") (T := TRo) (N := 9) hx hb hts inRo hown hK hP 0 rfl rfl 0 (by decide) (hts _ tw_40) (fun _ h9 => h9) rfl dRo_noteNext_66 ?_
      refine lv_iconst (v := nI 1) hx hb dRo_noteNext_69 (by decide) ?_
      refine lv_icmp_ne (tgt := 77) hx hb dRo_noteNext_70 (by decide) (fun c70 => ?_) (fun c70 => ?_)
      · have c70 : ¬ n = 1 := fun h => c70 ((nI_eq (by omega) (by omega)).mpr h)
        refine lv_aload_n hx hb dRo_noteNext_77 rfl (lv_at hl 0 rfl) ?_
        refine va_get (D := D) (ci := 5) (v := .long sh) (C := "ColumnForms$Row") (T := TRo) (N := 9) hx hb hts inRo hown hK hP 0 rfl rfl 6 (by decide) (hts _ tw_54) (fun _ h9 => h9) rfl dRo_noteNext_78 ?_
        refine lv_lload_n hx hb dRo_noteNext_81 rfl (lv_at hl 2 rfl) ?_
        refine va_mmax_long hx hb (hml.trans hl.1.symm) hown (hts _ tw_267) (hts _ tw_268) (hts _ tw_15) (hts _ tw_269) (Nat.le_of_ble_eq_true rfl) (Nat.le_of_ble_eq_true rfl) (Nat.le_of_ble_eq_true rfl) (Nat.le_of_ble_eq_true rfl) dRo_noteNext_82 ?_
        refine tp_l (show (if st < sh then sh else st) = (lMax sh st) from rfl) ?_
        refine va_put (D := D) (ci := 5) (v := .long (lMax sh st)) (ty := .long) (C := "ColumnForms$Row") (T := TRo) (N := 9) hx hb hts inRo tyRo tyRo_ok nmRo hown hK hP hD hS 0 rfl rfl 6 (by decide) (hts _ tw_54) (fun _ h9 => h9) rfl (by decide +kernel) rfl rfl (Nat.le_of_ble_eq_true rfl) dRo_noteNext_85 (fun H locs hP hD hS => ?_)
        have hP : va_P D vwCl [(qr, .inr (5, [.int (nI n), .int (nI d), .int (nI (rn + 1)), .long (lMin lo v), .long (lMax hi v), .long (lMin sl st), .long (lMax sh st), .ref qc, .ref qs]))] H := hP
        have hD : va_D A [(qr, .inr (5, [.int (nI n), .int (nI d), .int (nI (rn + 1)), .long (lMin lo v), .long (lMax hi v), .long (lMin sl st), .long (lMax sh st), .ref qc, .ref qs]))] := hD
        exact hret (rn + 1, lMin sl st, lMax sh st) _ _ _ _ _ _ ⟨by rw [if_neg c3], by rw [if_neg c46], by rw [if_neg c46], trivial⟩ (hP.sub [0] rfl) (hD.sub [0] (by decide) rfl) hS (Nat.le_of_ble_eq_true rfl) (Nat.le_of_ble_eq_true rfl) dRo_noteNext_88
      · have c70 : n = 1 := (nI_eq (by omega) (by omega)).mp c70
        exact absurd c70 c46
    · have c46 : n = 1 := (nI_eq (by omega) (by omega)).mp c46
      refine lv_lload_n hx hb dRo_noteNext_49 rfl (lv_at hl 2 rfl) ?_
      refine lv_goto (tgt := 61) hx hb dRo_noteNext_50 (by decide) ?_
      refine va_put (D := D) (ci := 5) (v := .long st) (ty := .long) (C := "ColumnForms$Row") (T := TRo) (N := 9) hx hb hts inRo tyRo tyRo_ok nmRo hown hK hP hD hS 0 rfl rfl 5 (by decide) (hts _ tw_52) (fun _ h9 => h9) rfl (by decide +kernel) rfl rfl (Nat.le_of_ble_eq_true rfl) dRo_noteNext_61 (fun H locs hP hD hS => ?_)
      have hP : va_P D vwCl [(qr, .inr (5, [.int (nI n), .int (nI d), .int (nI (rn + 1)), .long (lMin lo v), .long (lMax hi v), .long st, .long sh, .ref qc, .ref qs]))] H := hP
      have hD : va_D A [(qr, .inr (5, [.int (nI n), .int (nI d), .int (nI (rn + 1)), .long (lMin lo v), .long (lMax hi v), .long st, .long sh, .ref qc, .ref qs]))] := hD
      refine lv_aload_n hx hb dRo_noteNext_64 rfl (lv_at hl 0 rfl) ?_
      refine lv_aload_n hx hb dRo_noteNext_65 rfl (lv_at hl 0 rfl) ?_
      refine va_get (D := D) (ci := 5) (v := .int (nI n)) (C := "ColumnForms$Row") (T := TRo) (N := 9) hx hb hts inRo hown hK hP 0 rfl rfl 0 (by decide) (hts _ tw_40) (fun _ h9 => h9) rfl dRo_noteNext_66 ?_
      refine lv_iconst (v := nI 1) hx hb dRo_noteNext_69 (by decide) ?_
      refine lv_icmp_ne (tgt := 77) hx hb dRo_noteNext_70 (by decide) (fun c70 => ?_) (fun c70 => ?_)
      · have c70 : ¬ n = 1 := fun h => c70 ((nI_eq (by omega) (by omega)).mpr h)
        exact absurd c46 c70
      · have c70 : n = 1 := (nI_eq (by omega) (by omega)).mp c70
        refine lv_lload_n hx hb dRo_noteNext_73 rfl (lv_at hl 2 rfl) ?_
        refine lv_goto (tgt := 85) hx hb dRo_noteNext_74 (by decide) ?_
        refine va_put (D := D) (ci := 5) (v := .long st) (ty := .long) (C := "ColumnForms$Row") (T := TRo) (N := 9) hx hb hts inRo tyRo tyRo_ok nmRo hown hK hP hD hS 0 rfl rfl 6 (by decide) (hts _ tw_54) (fun _ h9 => h9) rfl (by decide +kernel) rfl rfl (Nat.le_of_ble_eq_true rfl) dRo_noteNext_85 (fun H locs hP hD hS => ?_)
        have hP : va_P D vwCl [(qr, .inr (5, [.int (nI n), .int (nI d), .int (nI (rn + 1)), .long (lMin lo v), .long (lMax hi v), .long st, .long st, .ref qc, .ref qs]))] H := hP
        have hD : va_D A [(qr, .inr (5, [.int (nI n), .int (nI d), .int (nI (rn + 1)), .long (lMin lo v), .long (lMax hi v), .long st, .long st, .ref qc, .ref qs]))] := hD
        exact hret (rn + 1, st, st) _ _ _ _ _ _ ⟨by rw [if_neg c3], by rw [if_pos c46], by rw [if_pos c46], trivial⟩ (hP.sub [0] rfl) (hD.sub [0] (by decide) rfl) hS (Nat.le_of_ble_eq_true rfl) (Nat.le_of_ble_eq_true rfl) dRo_noteNext_88

set_option maxHeartbeats 4000000 in
set_option maxRecDepth 100000 in
theorem c_noteDif (l : Launch) (D : va_G) (cJ cB cI cF : ClassId) (qr : Nat) (n : Nat) (d : Nat) (rn : Nat) (lo : Int64) (hi : Int64) (sl : Int64) (sh : Int64) (qc : Nat) (qs : Nat) (xs : Nat → Int64) (rs : Nat → Int64) (v : Int64) (t : Nat) (sz : Nat) (hI : rInv xs n rs d) (hn : n < 1024) (ht : rPl rs d v t) : Met l yRo_noteDifferent (Cond.code yRo_noteDifferent cRo_noteDifferent 5 none :: wsG) ({ frames := 1, cells := 0, slots := 0, locals := 21 }) (va_Pc [.ref qr, .long v, .int (nI t)] (cfPre D (cfT cJ cB cI cF) [(qr, .inr (5, [.int (nI n), .int (nI d), .int (nI rn), .long lo, .long hi, .long sl, .long sh, .ref qc, .ref qs])), (qs, .inl (cJ, 1024, .inr (.inl rs)))] sz)) (va_Qv (fun (u : Nat × (Nat → Int64)) => (rInv (vp_updL xs n v) (n + 1) u.2 u.1) ∧ True) (fun u t => cfPost D ((fun (u : Nat × (Nat → Int64)) => [(qr, .inr (5, [.int (nI n), .int (nI u.1), .int (nI rn), .long lo, .long hi, .long sl, .long sh, .ref qc, .ref qs])), (qs, .inl (cJ, 1024, .inr (.inl u.2)))]) u) (va_A [(qr, .inr (5, [.int (nI n), .int (nI d), .int (nI rn), .long lo, .long hi, .long sl, .long sh, .ref qc, .ref qs])), (qs, .inl (cJ, 1024, .inr (.inl rs)))] sz) t) (va_A [(qr, .inr (5, [.int (nI n), .int (nI d), .int (nI rn), .long lo, .long hi, .long sl, .long sh, .ref qc, .ref qs])), (qs, .inl (cJ, 1024, .inr (.inl rs)))] sz)) 0 0 (va_A [(qr, .inr (5, [.int (nI n), .int (nI d), .int (nI rn), .long lo, .long hi, .long sl, .long sh, .ref qc, .ref qs])), (qs, .inl (cJ, 1024, .inr (.inl rs)))] sz) := by
  refine met_v (cc := cRo_noteDifferent) (maxL := 5) (S := Nat × (Nat → Int64)) (D := D) (wO := fun (u : Nat × (Nat → Int64)) => [(qr, .inr (5, [.int (nI n), .int (nI u.1), .int (nI rn), .long lo, .long hi, .long sl, .long sh, .ref qc, .ref qs])), (qs, .inl (cJ, 1024, .inr (.inl u.2)))]) (by decide) (Nat.le_of_ble_eq_true rfl) ?_
  intro p e s m below meth c hx hb hml hown hts hlocks hin hWd A hA hsz hP hK hD hS Q hret ls hl
  have hown : s.vm.findClass "ColumnForms$Row" = some m.cls := hown
  have hl : lv_has ls 5 [(0, .ref qr), (1, .long v), (3, .int (nI t))] := hl
  have hP : va_P D vwCl [(qr, .inr (5, [.int (nI n), .int (nI d), .int (nI rn), .long lo, .long hi, .long sl, .long sh, .ref qc, .ref qs])), (qs, .inl (cJ, 1024, .inr (.inl rs)))] s.heap := hP
  have ht1 := ht.1
  have hdn := hI.2.1
  refine lv_iload_n hx hb dRo_noteDifferent_0 rfl (lv_at hl 2 rfl) ?_
  refine lv_aload_n hx hb dRo_noteDifferent_1 rfl (lv_at hl 0 rfl) ?_
  refine va_get (D := D) (ci := 5) (v := .int (nI d)) (C := "ColumnForms$Row") (T := TRo) (N := 9) hx hb hts inRo hown hK hP 0 rfl rfl 1 (by decide) (hts _ tw_44) (fun _ h9 => h9) rfl dRo_noteDifferent_2 ?_
  refine lv_icmp_ge (tgt := 22) hx hb dRo_noteDifferent_5 (by decide) (fun c5 => ?_) (fun c5 => ?_)
  · have c5 : d ≤ t := (nI_leI (by omega) (by omega)).mp c5
    refine lv_iconst (v := nI 0) hx hb dRo_noteDifferent_22 (by decide) ?_
    refine lv_istore (lv' := [(4, .int (nI 0)), (0, .ref qr), (1, .long v), (3, .int (nI t))]) hx hb dRo_noteDifferent_23 hl (by decide) rfl (fun ls hl => ?_)
    refine lv_iload hx hb dRo_noteDifferent_25 (lv_at hl 0 rfl) ?_
    refine lv_if_ne (tgt := 52) hx hb dRo_noteDifferent_27 (by decide) (fun c27 => ?_) (fun c27 => ?_)
    · have c27 : ¬ 0 = 0 := fun h => c27 ((nI_eq (b := 0) (by omega) (by omega)).mpr h)
      exact absurd c27 (by decide)
    · have c27 : 0 = 0 := (nI_eq (b := 0) (by omega) (by omega)).mp c27
      refine lv_iload_n hx hb dRo_noteDifferent_30 rfl (lv_at hl 3 rfl) ?_
      refine lv_if_lt (tgt := 52) hx hb dRo_noteDifferent_31 (by decide) (fun c31 => ?_) (fun c31 => ?_)
      · have c31 : t < 0 := (nI_ltI (b := 0) (by omega) (by omega)).mp c31
        exact absurd c31 (by omega)
      · have c31 : ¬ t < 0 := fun h => c31 ((nI_ltI (b := 0) (by omega) (by omega)).mpr h)
        refine lv_iload_n hx hb dRo_noteDifferent_34 rfl (lv_at hl 3 rfl) ?_
        refine lv_aload_n hx hb dRo_noteDifferent_35 rfl (lv_at hl 1 rfl) ?_
        refine va_get (D := D) (ci := 5) (v := .int (nI d)) (C := "ColumnForms$Row") (T := TRo) (N := 9) hx hb hts inRo hown hK hP 0 rfl rfl 1 (by decide) (hts _ tw_44) (fun _ h9 => h9) rfl dRo_noteDifferent_36 ?_
        refine lv_icmp_gt (tgt := 52) hx hb dRo_noteDifferent_39 (by decide) (fun c39 => ?_) (fun c39 => ?_)
        · have c39 : d < t := (nI_ltI (by omega) (by omega)).mp c39
          exact absurd c39 (by omega)
        · have c39 : ¬ d < t := fun h => c39 ((nI_ltI (by omega) (by omega)).mpr h)
          refine lv_aload_n hx hb dRo_noteDifferent_42 rfl (lv_at hl 1 rfl) ?_
          refine va_get (D := D) (ci := 5) (v := .int (nI d)) (C := "ColumnForms$Row") (T := TRo) (N := 9) hx hb hts inRo hown hK hP 0 rfl rfl 1 (by decide) (hts _ tw_44) (fun _ h9 => h9) rfl dRo_noteDifferent_43 ?_
          refine lv_sipush (v := nI 1024) hx hb dRo_noteDifferent_46 (by decide) ?_
          refine lv_icmp_lt (tgt := 53) hx hb dRo_noteDifferent_49 (by decide) (fun c49 => ?_) (fun c49 => ?_)
          · have c49 : d < 1024 := (nI_ltI (by omega) (by omega)).mp c49
            refine lv_aload_n hx hb dRo_noteDifferent_53 rfl (lv_at hl 1 rfl) ?_
            refine va_get (D := D) (ci := 5) (v := .ref qs) (C := "ColumnForms$Row") (T := TRo) (N := 9) hx hb hts inRo hown hK hP 0 rfl rfl 8 (by decide) (hts _ tw_56) (fun _ h9 => h9) rfl dRo_noteDifferent_54 ?_
            refine lv_iload_n hx hb dRo_noteDifferent_57 rfl (lv_at hl 3 rfl) ?_
            refine lv_aload_n hx hb dRo_noteDifferent_58 rfl (lv_at hl 1 rfl) ?_
            refine va_get (D := D) (ci := 5) (v := .ref qs) (C := "ColumnForms$Row") (T := TRo) (N := 9) hx hb hts inRo hown hK hP 0 rfl rfl 8 (by decide) (hts _ tw_56) (fun _ h9 => h9) rfl dRo_noteDifferent_59 ?_
            refine lv_iload_n hx hb dRo_noteDifferent_62 rfl (lv_at hl 3 rfl) ?_
            refine lv_iconst (v := nI 1) hx hb dRo_noteDifferent_63 (by decide) ?_
            refine lv_iadd hx hb dRo_noteDifferent_64 ?_
            refine tp_i (show ((nI t) + (nI 1)) = (nI (t + 1)) from nI_add _ _) ?_
            refine lv_aload_n hx hb dRo_noteDifferent_65 rfl (lv_at hl 1 rfl) ?_
            refine va_get (D := D) (ci := 5) (v := .int (nI d)) (C := "ColumnForms$Row") (T := TRo) (N := 9) hx hb hts inRo hown hK hP 0 rfl rfl 1 (by decide) (hts _ tw_44) (fun _ h9 => h9) rfl dRo_noteDifferent_66 ?_
            refine lv_iload_n hx hb dRo_noteDifferent_69 rfl (lv_at hl 3 rfl) ?_
            refine lv_isub hx hb dRo_noteDifferent_70 ?_
            refine tp_i (show ((nI d) - (nI t)) = (nI (d - t)) from pk_sub (by omega)) ?_
            refine va_copyl hx hb (hml.trans hl.1.symm) hown (hts _ tw_282) (hts _ tw_284) (hts _ tw_283) (hts _ tw_16) hK hP hD hS 1 1 0 0 rfl rfl rfl rfl rfl (nI_pos (by omega)) (nI_pos (by omega)) (nI_pos (by omega)) (by rw [nI_clamp (by omega), nI_clamp (by omega)]; omega) (by rw [nI_clamp (by omega), nI_clamp (by omega)]; omega) (fun i hi => rfl) (Nat.le_of_ble_eq_true rfl) (Nat.le_of_ble_eq_true rfl) dRo_noteDifferent_71 (fun H locs hP hD hS => ?_)
            rw [nI_clamp (by omega), nI_clamp (by omega), nI_clamp (by omega)] at hP hD
            have hP : va_P D vwCl [(qr, .inr (5, [.int (nI n), .int (nI d), .int (nI rn), .long lo, .long hi, .long sl, .long sh, .ref qc, .ref qs])), (qs, .inl (cJ, 1024, .inr (.inl (va_cpy rs rs t (t + 1) (d - t)))))] H := hP
            have hD : va_D A [(qr, .inr (5, [.int (nI n), .int (nI d), .int (nI rn), .long lo, .long hi, .long sl, .long sh, .ref qc, .ref qs])), (qs, .inl (cJ, 1024, .inr (.inl (va_cpy rs rs t (t + 1) (d - t)))))] := hD
            refine lv_aload_n hx hb dRo_noteDifferent_74 rfl (lv_at hl 1 rfl) ?_
            refine va_get (D := D) (ci := 5) (v := .ref qs) (C := "ColumnForms$Row") (T := TRo) (N := 9) hx hb hts inRo hown hK hP 0 rfl rfl 8 (by decide) (hts _ tw_56) (fun _ h9 => h9) rfl dRo_noteDifferent_75 ?_
            refine lv_iload_n hx hb dRo_noteDifferent_78 rfl (lv_at hl 3 rfl) ?_
            refine lv_lload_n hx hb dRo_noteDifferent_79 rfl (lv_at hl 2 rfl) ?_
            refine va_last hx hb hK hP hD hS 1 0 rfl rfl (vp_in_nI (by omega) (by omega)) dRo_noteDifferent_80 (fun H locs hP hD hS => ?_)
            rw [nI_clamp (by omega)] at hP hD
            have hP : va_P D vwCl [(qr, .inr (5, [.int (nI n), .int (nI d), .int (nI rn), .long lo, .long hi, .long sl, .long sh, .ref qc, .ref qs])), (qs, .inl (cJ, 1024, .inr (.inl (vp_updL (va_cpy rs rs t (t + 1) (d - t)) t v))))] H := hP
            have hD : va_D A [(qr, .inr (5, [.int (nI n), .int (nI d), .int (nI rn), .long lo, .long hi, .long sl, .long sh, .ref qc, .ref qs])), (qs, .inl (cJ, 1024, .inr (.inl (vp_updL (va_cpy rs rs t (t + 1) (d - t)) t v))))] := hD
            have hP : va_P D vwCl [(qr, .inr (5, [.int (nI n), .int (nI d), .int (nI rn), .long lo, .long hi, .long sl, .long sh, .ref qc, .ref qs])), (qs, .inl (cJ, 1024, .inr (.inl (rIns rs d t v))))] H := hP
            have hD : va_D A [(qr, .inr (5, [.int (nI n), .int (nI d), .int (nI rn), .long lo, .long hi, .long sl, .long sh, .ref qc, .ref qs])), (qs, .inl (cJ, 1024, .inr (.inl (rIns rs d t v))))] := hD
            refine lv_aload_n hx hb dRo_noteDifferent_81 rfl (lv_at hl 1 rfl) ?_
            refine lv_dup hx hb dRo_noteDifferent_82 rfl ?_
            refine va_get (D := D) (ci := 5) (v := .int (nI d)) (C := "ColumnForms$Row") (T := TRo) (N := 9) hx hb hts inRo hown hK hP 0 rfl rfl 1 (by decide) (hts _ tw_44) (fun _ h9 => h9) rfl dRo_noteDifferent_83 ?_
            refine lv_iconst (v := nI 1) hx hb dRo_noteDifferent_86 (by decide) ?_
            refine lv_iadd hx hb dRo_noteDifferent_87 ?_
            refine tp_i (show ((nI d) + (nI 1)) = (nI (d + 1)) from nI_add _ _) ?_
            refine va_put (D := D) (ci := 5) (v := .int (nI (d + 1))) (ty := .int) (C := "ColumnForms$Row") (T := TRo) (N := 9) hx hb hts inRo tyRo tyRo_ok nmRo hown hK hP hD hS 0 rfl rfl 1 (by decide) (hts _ tw_44) (fun _ h9 => h9) rfl (by decide +kernel) rfl rfl (Nat.le_of_ble_eq_true rfl) dRo_noteDifferent_88 (fun H locs hP hD hS => ?_)
            have hP : va_P D vwCl [(qr, .inr (5, [.int (nI n), .int (nI (d + 1)), .int (nI rn), .long lo, .long hi, .long sl, .long sh, .ref qc, .ref qs])), (qs, .inl (cJ, 1024, .inr (.inl (rIns rs d t v))))] H := hP
            have hD : va_D A [(qr, .inr (5, [.int (nI n), .int (nI (d + 1)), .int (nI rn), .long lo, .long hi, .long sl, .long sh, .ref qc, .ref qs])), (qs, .inl (cJ, 1024, .inr (.inl (rIns rs d t v))))] := hD
            exact hret (d + 1, rIns rs d t v) _ _ _ _ _ _ ⟨rInv_new hI ht (fun h => absurd h.1 (by omega)), trivial⟩ (hP.sub [0, 1] rfl) (hD.sub [0, 1] (by decide) rfl) hS (Nat.le_of_ble_eq_true rfl) (Nat.le_of_ble_eq_true rfl) dRo_noteDifferent_91
          · have c49 : ¬ d < 1024 := fun h => c49 ((nI_ltI (by omega) (by omega)).mpr h)
            exact absurd c49 (by omega)
  · have c5 : ¬ d ≤ t := fun h => c5 ((nI_leI (by omega) (by omega)).mpr h)
    refine lv_aload_n hx hb dRo_noteDifferent_8 rfl (lv_at hl 0 rfl) ?_
    refine lv_iload_n hx hb dRo_noteDifferent_9 rfl (lv_at hl 2 rfl) ?_
    refine kc_l (wc := [(qr, .inr (5, [.int (nI n), .int (nI d), .int (nI rn), .long lo, .long hi, .long sl, .long sh, .ref qc, .ref qs])), (qs, .inl (cJ, 1024, .inr (.inl rs)))]) (wr := []) hP hD hS hA [0, 1] [] rfl rfl (by decide) (by decide) (by decide) (fun hPc hDc => va_runV (As := [.int (nI t)]) (rest := []) ⟨hx, hb, hml, hown, hts⟩ (c_difAt l D cJ cB cI cF qr n d rn lo hi sl sh qc qs rs t _ (by omega) (by omega)) (cwV 1 hts (wsG_k tw_274 (wsG_k tw_275 (wsG_k tw_276 (wsG_k tw_2 (wsG_c tw_277))))) rfl rfl rfl (by decide +kernel) ⟨Nat.le_of_ble_eq_true rfl, Nat.le_of_ble_eq_true rfl⟩) ⟨cf_blind, va_recv hK hPc (ci := 5) (q0 := 0) rfl rfl, cf_pre hPc hK hDc hWd⟩ rfl rfl hl.1 rfl (lv_room (Nat.le_of_ble_eq_true rfl)) dRo_noteDifferent_10 ⟨Nat.le_of_ble_eq_true rfl, Nat.le_of_ble_eq_true rfl⟩) (fun r u H locs hw hP hD hS => ?_)
    obtain ⟨rfl, -⟩ := hw
    have hP : va_P D vwCl [(qr, .inr (5, [.int (nI n), .int (nI d), .int (nI rn), .long lo, .long hi, .long sl, .long sh, .ref qc, .ref qs])), (qs, .inl (cJ, 1024, .inr (.inl rs)))] H := hP
    have hD : va_D A [(qr, .inr (5, [.int (nI n), .int (nI d), .int (nI rn), .long lo, .long hi, .long sl, .long sh, .ref qc, .ref qs])), (qs, .inl (cJ, 1024, .inr (.inl rs)))] := hD
    refine lv_lload_n hx hb dRo_noteDifferent_13 rfl (lv_at hl 1 rfl) ?_
    refine W.lcmp hx hb dRo_noteDifferent_14 ?_
    refine lv_if_ne (tgt := 22) hx hb dRo_noteDifferent_15 (by decide) (fun c15 => ?_) (fun c15 => ?_)
    · have c15 : ¬ (rs t) = v := fun h => c15 ((lg_cmp_eq _ _).mpr h)
      refine lv_iconst (v := nI 0) hx hb dRo_noteDifferent_22 (by decide) ?_
      refine lv_istore (lv' := [(4, .int (nI 0)), (0, .ref qr), (1, .long v), (3, .int (nI t))]) hx hb dRo_noteDifferent_23 hl (by decide) rfl (fun ls hl => ?_)
      refine lv_iload hx hb dRo_noteDifferent_25 (lv_at hl 0 rfl) ?_
      refine lv_if_ne (tgt := 52) hx hb dRo_noteDifferent_27 (by decide) (fun c27 => ?_) (fun c27 => ?_)
      · have c27 : ¬ 0 = 0 := fun h => c27 ((nI_eq (b := 0) (by omega) (by omega)).mpr h)
        exact absurd c27 (by decide)
      · have c27 : 0 = 0 := (nI_eq (b := 0) (by omega) (by omega)).mp c27
        refine lv_iload_n hx hb dRo_noteDifferent_30 rfl (lv_at hl 3 rfl) ?_
        refine lv_if_lt (tgt := 52) hx hb dRo_noteDifferent_31 (by decide) (fun c31 => ?_) (fun c31 => ?_)
        · have c31 : t < 0 := (nI_ltI (b := 0) (by omega) (by omega)).mp c31
          exact absurd c31 (by omega)
        · have c31 : ¬ t < 0 := fun h => c31 ((nI_ltI (b := 0) (by omega) (by omega)).mpr h)
          refine lv_iload_n hx hb dRo_noteDifferent_34 rfl (lv_at hl 3 rfl) ?_
          refine lv_aload_n hx hb dRo_noteDifferent_35 rfl (lv_at hl 1 rfl) ?_
          refine va_get (D := D) (ci := 5) (v := .int (nI d)) (C := "ColumnForms$Row") (T := TRo) (N := 9) hx hb hts inRo hown hK hP 0 rfl rfl 1 (by decide) (hts _ tw_44) (fun _ h9 => h9) rfl dRo_noteDifferent_36 ?_
          refine lv_icmp_gt (tgt := 52) hx hb dRo_noteDifferent_39 (by decide) (fun c39 => ?_) (fun c39 => ?_)
          · have c39 : d < t := (nI_ltI (by omega) (by omega)).mp c39
            exact absurd c39 (by omega)
          · have c39 : ¬ d < t := fun h => c39 ((nI_ltI (by omega) (by omega)).mpr h)
            refine lv_aload_n hx hb dRo_noteDifferent_42 rfl (lv_at hl 1 rfl) ?_
            refine va_get (D := D) (ci := 5) (v := .int (nI d)) (C := "ColumnForms$Row") (T := TRo) (N := 9) hx hb hts inRo hown hK hP 0 rfl rfl 1 (by decide) (hts _ tw_44) (fun _ h9 => h9) rfl dRo_noteDifferent_43 ?_
            refine lv_sipush (v := nI 1024) hx hb dRo_noteDifferent_46 (by decide) ?_
            refine lv_icmp_lt (tgt := 53) hx hb dRo_noteDifferent_49 (by decide) (fun c49 => ?_) (fun c49 => ?_)
            · have c49 : d < 1024 := (nI_ltI (by omega) (by omega)).mp c49
              refine lv_aload_n hx hb dRo_noteDifferent_53 rfl (lv_at hl 1 rfl) ?_
              refine va_get (D := D) (ci := 5) (v := .ref qs) (C := "ColumnForms$Row") (T := TRo) (N := 9) hx hb hts inRo hown hK hP 0 rfl rfl 8 (by decide) (hts _ tw_56) (fun _ h9 => h9) rfl dRo_noteDifferent_54 ?_
              refine lv_iload_n hx hb dRo_noteDifferent_57 rfl (lv_at hl 3 rfl) ?_
              refine lv_aload_n hx hb dRo_noteDifferent_58 rfl (lv_at hl 1 rfl) ?_
              refine va_get (D := D) (ci := 5) (v := .ref qs) (C := "ColumnForms$Row") (T := TRo) (N := 9) hx hb hts inRo hown hK hP 0 rfl rfl 8 (by decide) (hts _ tw_56) (fun _ h9 => h9) rfl dRo_noteDifferent_59 ?_
              refine lv_iload_n hx hb dRo_noteDifferent_62 rfl (lv_at hl 3 rfl) ?_
              refine lv_iconst (v := nI 1) hx hb dRo_noteDifferent_63 (by decide) ?_
              refine lv_iadd hx hb dRo_noteDifferent_64 ?_
              refine tp_i (show ((nI t) + (nI 1)) = (nI (t + 1)) from nI_add _ _) ?_
              refine lv_aload_n hx hb dRo_noteDifferent_65 rfl (lv_at hl 1 rfl) ?_
              refine va_get (D := D) (ci := 5) (v := .int (nI d)) (C := "ColumnForms$Row") (T := TRo) (N := 9) hx hb hts inRo hown hK hP 0 rfl rfl 1 (by decide) (hts _ tw_44) (fun _ h9 => h9) rfl dRo_noteDifferent_66 ?_
              refine lv_iload_n hx hb dRo_noteDifferent_69 rfl (lv_at hl 3 rfl) ?_
              refine lv_isub hx hb dRo_noteDifferent_70 ?_
              refine tp_i (show ((nI d) - (nI t)) = (nI (d - t)) from pk_sub (by omega)) ?_
              refine va_copyl hx hb (hml.trans hl.1.symm) hown (hts _ tw_282) (hts _ tw_284) (hts _ tw_283) (hts _ tw_16) hK hP hD hS 1 1 0 0 rfl rfl rfl rfl rfl (nI_pos (by omega)) (nI_pos (by omega)) (nI_pos (by omega)) (by rw [nI_clamp (by omega), nI_clamp (by omega)]; omega) (by rw [nI_clamp (by omega), nI_clamp (by omega)]; omega) (fun i hi => rfl) (Nat.le_of_ble_eq_true rfl) (Nat.le_of_ble_eq_true rfl) dRo_noteDifferent_71 (fun H locs hP hD hS => ?_)
              rw [nI_clamp (by omega), nI_clamp (by omega), nI_clamp (by omega)] at hP hD
              have hP : va_P D vwCl [(qr, .inr (5, [.int (nI n), .int (nI d), .int (nI rn), .long lo, .long hi, .long sl, .long sh, .ref qc, .ref qs])), (qs, .inl (cJ, 1024, .inr (.inl (va_cpy rs rs t (t + 1) (d - t)))))] H := hP
              have hD : va_D A [(qr, .inr (5, [.int (nI n), .int (nI d), .int (nI rn), .long lo, .long hi, .long sl, .long sh, .ref qc, .ref qs])), (qs, .inl (cJ, 1024, .inr (.inl (va_cpy rs rs t (t + 1) (d - t)))))] := hD
              refine lv_aload_n hx hb dRo_noteDifferent_74 rfl (lv_at hl 1 rfl) ?_
              refine va_get (D := D) (ci := 5) (v := .ref qs) (C := "ColumnForms$Row") (T := TRo) (N := 9) hx hb hts inRo hown hK hP 0 rfl rfl 8 (by decide) (hts _ tw_56) (fun _ h9 => h9) rfl dRo_noteDifferent_75 ?_
              refine lv_iload_n hx hb dRo_noteDifferent_78 rfl (lv_at hl 3 rfl) ?_
              refine lv_lload_n hx hb dRo_noteDifferent_79 rfl (lv_at hl 2 rfl) ?_
              refine va_last hx hb hK hP hD hS 1 0 rfl rfl (vp_in_nI (by omega) (by omega)) dRo_noteDifferent_80 (fun H locs hP hD hS => ?_)
              rw [nI_clamp (by omega)] at hP hD
              have hP : va_P D vwCl [(qr, .inr (5, [.int (nI n), .int (nI d), .int (nI rn), .long lo, .long hi, .long sl, .long sh, .ref qc, .ref qs])), (qs, .inl (cJ, 1024, .inr (.inl (vp_updL (va_cpy rs rs t (t + 1) (d - t)) t v))))] H := hP
              have hD : va_D A [(qr, .inr (5, [.int (nI n), .int (nI d), .int (nI rn), .long lo, .long hi, .long sl, .long sh, .ref qc, .ref qs])), (qs, .inl (cJ, 1024, .inr (.inl (vp_updL (va_cpy rs rs t (t + 1) (d - t)) t v))))] := hD
              have hP : va_P D vwCl [(qr, .inr (5, [.int (nI n), .int (nI d), .int (nI rn), .long lo, .long hi, .long sl, .long sh, .ref qc, .ref qs])), (qs, .inl (cJ, 1024, .inr (.inl (rIns rs d t v))))] H := hP
              have hD : va_D A [(qr, .inr (5, [.int (nI n), .int (nI d), .int (nI rn), .long lo, .long hi, .long sl, .long sh, .ref qc, .ref qs])), (qs, .inl (cJ, 1024, .inr (.inl (rIns rs d t v))))] := hD
              refine lv_aload_n hx hb dRo_noteDifferent_81 rfl (lv_at hl 1 rfl) ?_
              refine lv_dup hx hb dRo_noteDifferent_82 rfl ?_
              refine va_get (D := D) (ci := 5) (v := .int (nI d)) (C := "ColumnForms$Row") (T := TRo) (N := 9) hx hb hts inRo hown hK hP 0 rfl rfl 1 (by decide) (hts _ tw_44) (fun _ h9 => h9) rfl dRo_noteDifferent_83 ?_
              refine lv_iconst (v := nI 1) hx hb dRo_noteDifferent_86 (by decide) ?_
              refine lv_iadd hx hb dRo_noteDifferent_87 ?_
              refine tp_i (show ((nI d) + (nI 1)) = (nI (d + 1)) from nI_add _ _) ?_
              refine va_put (D := D) (ci := 5) (v := .int (nI (d + 1))) (ty := .int) (C := "ColumnForms$Row") (T := TRo) (N := 9) hx hb hts inRo tyRo tyRo_ok nmRo hown hK hP hD hS 0 rfl rfl 1 (by decide) (hts _ tw_44) (fun _ h9 => h9) rfl (by decide +kernel) rfl rfl (Nat.le_of_ble_eq_true rfl) dRo_noteDifferent_88 (fun H locs hP hD hS => ?_)
              have hP : va_P D vwCl [(qr, .inr (5, [.int (nI n), .int (nI (d + 1)), .int (nI rn), .long lo, .long hi, .long sl, .long sh, .ref qc, .ref qs])), (qs, .inl (cJ, 1024, .inr (.inl (rIns rs d t v))))] H := hP
              have hD : va_D A [(qr, .inr (5, [.int (nI n), .int (nI (d + 1)), .int (nI rn), .long lo, .long hi, .long sl, .long sh, .ref qc, .ref qs])), (qs, .inl (cJ, 1024, .inr (.inl (rIns rs d t v))))] := hD
              exact hret (d + 1, rIns rs d t v) _ _ _ _ _ _ ⟨rInv_new hI ht (fun h => c15 h.2), trivial⟩ (hP.sub [0, 1] rfl) (hD.sub [0, 1] (by decide) rfl) hS (Nat.le_of_ble_eq_true rfl) (Nat.le_of_ble_eq_true rfl) dRo_noteDifferent_91
            · have c49 : ¬ d < 1024 := fun h => c49 ((nI_ltI (by omega) (by omega)).mpr h)
              exact absurd c49 (by omega)
    · have c15 : (rs t) = v := (lg_cmp_eq _ _).mp c15
      refine lv_iconst (v := nI 1) hx hb dRo_noteDifferent_18 (by decide) ?_
      refine lv_goto (tgt := 23) hx hb dRo_noteDifferent_19 (by decide) ?_
      refine lv_istore (lv' := [(4, .int (nI 1)), (0, .ref qr), (1, .long v), (3, .int (nI t))]) hx hb dRo_noteDifferent_23 hl (by decide) rfl (fun ls hl => ?_)
      refine lv_iload hx hb dRo_noteDifferent_25 (lv_at hl 0 rfl) ?_
      refine lv_if_ne (tgt := 52) hx hb dRo_noteDifferent_27 (by decide) (fun c27 => ?_) (fun c27 => ?_)
      · have c27 : ¬ 1 = 0 := fun h => c27 ((nI_eq (b := 0) (by omega) (by omega)).mpr h)
        exact hret (d, rs) _ _ _ _ _ _ ⟨rInv_old hI (Nat.not_le.mp c5) c15, trivial⟩ (hP.sub [0, 1] rfl) (hD.sub [0, 1] (by decide) rfl) hS (Nat.le_of_ble_eq_true rfl) (Nat.le_of_ble_eq_true rfl) dRo_noteDifferent_52
      · have c27 : 1 = 0 := (nI_eq (b := 0) (by omega) (by omega)).mp c27
        exact absurd c27 (by decide)

set_option maxHeartbeats 4000000 in
set_option maxRecDepth 100000 in
theorem c_add (l : Launch) (D : va_G) (cJ cB cI cF : ClassId) (qr : Nat) (n : Nat) (d : Nat) (rn : Nat) (lo : Int64) (hi : Int64) (sl : Int64) (sh : Int64) (qc : Nat) (qs : Nat) (xs : Nat → Int64) (rs : Nat → Int64) (v : Int64) (sz : Nat) (hR : rAll xs n d rn lo hi sl sh rs) (hn : n < 1024) : Met l yRo_add (Cond.code yRo_add cRo_add 3 none :: wsG) ({ frames := 2, cells := 0, slots := 0, locals := 45 }) (va_Pc [.ref qr, .long v] (cfPre D (cfT cJ cB cI cF) [(qr, .inr (5, [.int (nI n), .int (nI d), .int (nI rn), .long lo, .long hi, .long sl, .long sh, .ref qc, .ref qs])), (qc, .inl (cJ, 1024, .inr (.inl xs))), (qs, .inl (cJ, 1024, .inr (.inl rs)))] sz)) (va_Qv (fun (u : Nat × Nat × Int64 × Int64 × Int64 × Int64 × (Nat → Int64)) => (rAll (vp_updL xs n v) (n + 1) u.1 u.2.1 u.2.2.1 u.2.2.2.1 u.2.2.2.2.1 u.2.2.2.2.2.1 u.2.2.2.2.2.2) ∧ True) (fun u t => cfPost D ((fun (u : Nat × Nat × Int64 × Int64 × Int64 × Int64 × (Nat → Int64)) => [(qr, .inr (5, [.int (nI (n + 1)), .int (nI u.1), .int (nI u.2.1), .long u.2.2.1, .long u.2.2.2.1, .long u.2.2.2.2.1, .long u.2.2.2.2.2.1, .ref qc, .ref qs])), (qc, .inl (cJ, 1024, .inr (.inl (vp_updL xs n v)))), (qs, .inl (cJ, 1024, .inr (.inl u.2.2.2.2.2.2)))]) u) (va_A [(qr, .inr (5, [.int (nI n), .int (nI d), .int (nI rn), .long lo, .long hi, .long sl, .long sh, .ref qc, .ref qs])), (qc, .inl (cJ, 1024, .inr (.inl xs))), (qs, .inl (cJ, 1024, .inr (.inl rs)))] sz) t) (va_A [(qr, .inr (5, [.int (nI n), .int (nI d), .int (nI rn), .long lo, .long hi, .long sl, .long sh, .ref qc, .ref qs])), (qc, .inl (cJ, 1024, .inr (.inl xs))), (qs, .inl (cJ, 1024, .inr (.inl rs)))] sz)) 0 0 (va_A [(qr, .inr (5, [.int (nI n), .int (nI d), .int (nI rn), .long lo, .long hi, .long sl, .long sh, .ref qc, .ref qs])), (qc, .inl (cJ, 1024, .inr (.inl xs))), (qs, .inl (cJ, 1024, .inr (.inl rs)))] sz) := by
  refine met_v (cc := cRo_add) (maxL := 3) (S := Nat × Nat × Int64 × Int64 × Int64 × Int64 × (Nat → Int64)) (D := D) (wO := fun (u : Nat × Nat × Int64 × Int64 × Int64 × Int64 × (Nat → Int64)) => [(qr, .inr (5, [.int (nI (n + 1)), .int (nI u.1), .int (nI u.2.1), .long u.2.2.1, .long u.2.2.2.1, .long u.2.2.2.2.1, .long u.2.2.2.2.2.1, .ref qc, .ref qs])), (qc, .inl (cJ, 1024, .inr (.inl (vp_updL xs n v)))), (qs, .inl (cJ, 1024, .inr (.inl u.2.2.2.2.2.2)))]) (by decide) (Nat.le_of_ble_eq_true rfl) ?_
  intro p e s m below meth c hx hb hml hown hts hlocks hin hWd A hA hsz hP hK hD hS Q hret ls hl
  have hown : s.vm.findClass "ColumnForms$Row" = some m.cls := hown
  have hl : lv_has ls 3 [(0, .ref qr), (1, .long v)] := hl
  have hP : va_P D vwCl [(qr, .inr (5, [.int (nI n), .int (nI d), .int (nI rn), .long lo, .long hi, .long sl, .long sh, .ref qc, .ref qs])), (qc, .inl (cJ, 1024, .inr (.inl xs))), (qs, .inl (cJ, 1024, .inr (.inl rs)))] s.heap := hP
  have hI := hR.2.1
  have hrn : rn ≤ n := by rw [hR.2.2.1]; exact rRn_le n
  obtain ⟨t, ht⟩ := rPl_ex v hI.1
  refine lv_aload_n hx hb dRo_add_0 rfl (lv_at hl 0 rfl) ?_
  refine va_get (D := D) (ci := 5) (v := .int (nI n)) (C := "ColumnForms$Row") (T := TRo) (N := 9) hx hb hts inRo hown hK hP 0 rfl rfl 0 (by decide) (hts _ tw_40) (fun _ h9 => h9) rfl dRo_add_1 ?_
  refine lv_sipush (v := nI 1024) hx hb dRo_add_4 (by decide) ?_
  refine lv_icmp_lt (tgt := 11) hx hb dRo_add_7 (by decide) (fun c7 => ?_) (fun c7 => ?_)
  · have c7 : n < 1024 := (nI_ltI (by omega) (by omega)).mp c7
    refine lv_aload_n hx hb dRo_add_11 rfl (lv_at hl 0 rfl) ?_
    refine va_get (D := D) (ci := 5) (v := .int (nI n)) (C := "ColumnForms$Row") (T := TRo) (N := 9) hx hb hts inRo hown hK hP 0 rfl rfl 0 (by decide) (hts _ tw_40) (fun _ h9 => h9) rfl dRo_add_12 ?_
    refine lv_if_ne (tgt := 26) hx hb dRo_add_15 (by decide) (fun c15 => ?_) (fun c15 => ?_)
    · have c15 : ¬ n = 0 := fun h => c15 ((nI_eq (b := 0) (by omega) (by omega)).mpr h)
      refine lv_aload_n hx hb dRo_add_26 rfl (lv_at hl 0 rfl) ?_
      refine lv_lload_n hx hb dRo_add_27 rfl (lv_at hl 1 rfl) ?_
      refine lv_lload_n hx hb dRo_add_28 rfl (lv_at hl 1 rfl) ?_
      refine lv_aload_n hx hb dRo_add_29 rfl (lv_at hl 0 rfl) ?_
      refine lv_aload_n hx hb dRo_add_30 rfl (lv_at hl 0 rfl) ?_
      refine va_get (D := D) (ci := 5) (v := .int (nI n)) (C := "ColumnForms$Row") (T := TRo) (N := 9) hx hb hts inRo hown hK hP 0 rfl rfl 0 (by decide) (hts _ tw_40) (fun _ h9 => h9) rfl dRo_add_31 ?_
      refine lv_iconst (v := nI 1) hx hb dRo_add_34 (by decide) ?_
      refine lv_isub hx hb dRo_add_35 ?_
      refine tp_i (show ((nI n) - (nI 1)) = (nI (n - 1)) from pk_sub (by omega)) ?_
      refine kc_l (wc := [(qr, .inr (5, [.int (nI n), .int (nI d), .int (nI rn), .long lo, .long hi, .long sl, .long sh, .ref qc, .ref qs])), (qc, .inl (cJ, 1024, .inr (.inl xs)))]) (wr := [(qs, .inl (cJ, 1024, .inr (.inl rs)))]) hP hD hS hA [0, 1] [2] rfl rfl (by decide) (by decide) (by decide) (fun hPc hDc => va_runV (As := [.int (nI (n - 1))]) (rest := [.long v, .long v, .ref qr]) ⟨hx, hb, hml, hown, hts⟩ (c_at l D cJ cB cI cF qr n d rn lo hi sl sh qc qs xs (n - 1) _ (by omega) (by omega)) (cwV 1 hts (wsG_k tw_256 (wsG_k tw_257 (wsG_k tw_258 (wsG_k tw_2 (wsG_c tw_259))))) rfl rfl rfl (by decide +kernel) ⟨Nat.le_of_ble_eq_true rfl, Nat.le_of_ble_eq_true rfl⟩) ⟨cf_blind, va_recv hK hPc (ci := 5) (q0 := 0) rfl rfl, cf_pre hPc hK hDc hWd⟩ rfl rfl hl.1 rfl (lv_room (Nat.le_of_ble_eq_true rfl)) dRo_add_36 ⟨Nat.le_of_ble_eq_true rfl, Nat.le_of_ble_eq_true rfl⟩) (fun r u H locs hw hP hD hS => ?_)
      obtain ⟨rfl, -⟩ := hw
      have hP : va_P D vwCl [(qs, .inl (cJ, 1024, .inr (.inl rs))), (qr, .inr (5, [.int (nI n), .int (nI d), .int (nI rn), .long lo, .long hi, .long sl, .long sh, .ref qc, .ref qs])), (qc, .inl (cJ, 1024, .inr (.inl xs)))] H := hP
      have hD : va_D A [(qs, .inl (cJ, 1024, .inr (.inl rs))), (qr, .inr (5, [.int (nI n), .int (nI d), .int (nI rn), .long lo, .long hi, .long sl, .long sh, .ref qc, .ref qs])), (qc, .inl (cJ, 1024, .inr (.inl xs)))] := hD
      refine lv_lsub hx hb dRo_add_39 ?_
      refine kc_v (wc := [(qr, .inr (5, [.int (nI n), .int (nI d), .int (nI rn), .long lo, .long hi, .long sl, .long sh, .ref qc, .ref qs]))]) (wr := [(qs, .inl (cJ, 1024, .inr (.inl rs))), (qc, .inl (cJ, 1024, .inr (.inl xs)))]) hP hD hS hA [1] [0, 2] rfl rfl (by decide) (by decide) (by decide) (fun hPc hDc => va_runV (As := [.long v, .long (v - (xs (n - 1)))]) (rest := []) ⟨hx, hb, hml, hown, hts⟩ (c_noteNext l D cJ cB cI cF qr n d rn lo hi sl sh qc qs v (v - (xs (n - 1))) _ (by omega) (by omega) (by omega)) (cwV 2 hts (wsG_k tw_260 (wsG_k tw_262 (wsG_k tp_w2 (wsG_k tw_2 (wsG_c tw_263))))) rfl rfl rfl (by decide +kernel) ⟨Nat.le_of_ble_eq_true rfl, Nat.le_of_ble_eq_true rfl⟩) ⟨cf_blind, va_recv hK hPc (ci := 5) (q0 := 0) rfl rfl, cf_pre hPc hK hDc hWd⟩ rfl rfl hl.1 rfl (lv_room (Nat.le_of_ble_eq_true rfl)) dRo_add_40 ⟨Nat.le_of_ble_eq_true rfl, Nat.le_of_ble_eq_true rfl⟩) (fun u H locs hw hP hD hS => ?_)
      obtain ⟨rn2_1, sl2_2, sh2_3⟩ := u
      obtain ⟨f1, f2, f3, -⟩ := hw
      have f1 : rn2_1 = rn + (if (v - (xs (n - 1))) = 0 then 0 else 1) := f1
      have f2 : sl2_2 = if n = 1 then (v - (xs (n - 1))) else lMin sl (v - (xs (n - 1))) := f2
      have f3 : sh2_3 = if n = 1 then (v - (xs (n - 1))) else lMax sh (v - (xs (n - 1))) := f3
      have hP : va_P D vwCl [(qs, .inl (cJ, 1024, .inr (.inl rs))), (qc, .inl (cJ, 1024, .inr (.inl xs))), (qr, .inr (5, [.int (nI n), .int (nI d), .int (nI rn2_1), .long (lMin lo v), .long (lMax hi v), .long sl2_2, .long sh2_3, .ref qc, .ref qs]))] H := hP
      have hD : va_D A [(qs, .inl (cJ, 1024, .inr (.inl rs))), (qc, .inl (cJ, 1024, .inr (.inl xs))), (qr, .inr (5, [.int (nI n), .int (nI d), .int (nI rn2_1), .long (lMin lo v), .long (lMax hi v), .long sl2_2, .long sh2_3, .ref qc, .ref qs]))] := hD
      refine lv_aload_n hx hb dRo_add_43 rfl (lv_at hl 0 rfl) ?_
      refine lv_lload_n hx hb dRo_add_44 rfl (lv_at hl 1 rfl) ?_
      refine lv_aload_n hx hb dRo_add_45 rfl (lv_at hl 0 rfl) ?_
      refine lv_lload_n hx hb dRo_add_46 rfl (lv_at hl 1 rfl) ?_
      refine kc_i (wc := [(qr, .inr (5, [.int (nI n), .int (nI d), .int (nI rn2_1), .long (lMin lo v), .long (lMax hi v), .long sl2_2, .long sh2_3, .ref qc, .ref qs])), (qs, .inl (cJ, 1024, .inr (.inl rs)))]) (wr := [(qc, .inl (cJ, 1024, .inr (.inl xs)))]) hP hD hS hA [2, 0] [1] rfl rfl (by decide) (by decide) (by decide) (fun hPc hDc => va_runV (As := [.long v]) (rest := [.long v, .ref qr]) ⟨hx, hb, hml, hown, hts⟩ (c_placeOf l D cJ cB cI cF qr n d rn2_1 (lMin lo v) (lMax hi v) sl2_2 sh2_3 qc qs rs v _ _ (by have := hI.2.1; omega) (ht)) (cwV 1 hts (wsG_k tw_270 (wsG_k tw_271 (wsG_k tw_272 (wsG_k tw_2 (wsG_c tw_273))))) rfl rfl rfl (by decide +kernel) ⟨Nat.le_of_ble_eq_true rfl, Nat.le_of_ble_eq_true rfl⟩) ⟨cf_blind, va_recv hK hPc (ci := 5) (q0 := 0) rfl rfl, cf_pre hPc hK hDc hWd⟩ rfl rfl hl.1 rfl (lv_room (Nat.le_of_ble_eq_true rfl)) dRo_add_47 ⟨Nat.le_of_ble_eq_true rfl, Nat.le_of_ble_eq_true rfl⟩) (fun r u H locs hw hP hD hS => ?_)
      obtain ⟨rfl, -⟩ := hw
      have hP : va_P D vwCl [(qc, .inl (cJ, 1024, .inr (.inl xs))), (qr, .inr (5, [.int (nI n), .int (nI d), .int (nI rn2_1), .long (lMin lo v), .long (lMax hi v), .long sl2_2, .long sh2_3, .ref qc, .ref qs])), (qs, .inl (cJ, 1024, .inr (.inl rs)))] H := hP
      have hD : va_D A [(qc, .inl (cJ, 1024, .inr (.inl xs))), (qr, .inr (5, [.int (nI n), .int (nI d), .int (nI rn2_1), .long (lMin lo v), .long (lMax hi v), .long sl2_2, .long sh2_3, .ref qc, .ref qs])), (qs, .inl (cJ, 1024, .inr (.inl rs)))] := hD
      refine kc_v (wc := [(qr, .inr (5, [.int (nI n), .int (nI d), .int (nI rn2_1), .long (lMin lo v), .long (lMax hi v), .long sl2_2, .long sh2_3, .ref qc, .ref qs])), (qs, .inl (cJ, 1024, .inr (.inl rs)))]) (wr := [(qc, .inl (cJ, 1024, .inr (.inl xs)))]) hP hD hS hA [1, 2] [0] rfl rfl (by decide) (by decide) (by decide) (fun hPc hDc => va_runV (As := [.long v, .int (nI t)]) (rest := []) ⟨hx, hb, hml, hown, hts⟩ (c_noteDif l D cJ cB cI cF qr n d rn2_1 (lMin lo v) (lMax hi v) sl2_2 sh2_3 qc qs _ rs v t _ (hI) (hn) (ht)) (cwV 2 hts (wsG_k tw_278 (wsG_k tw_280 (wsG_k tp_w3 (wsG_k tw_2 (wsG_c tw_281))))) rfl rfl rfl (by decide +kernel) ⟨Nat.le_of_ble_eq_true rfl, Nat.le_of_ble_eq_true rfl⟩) ⟨cf_blind, va_recv hK hPc (ci := 5) (q0 := 0) rfl rfl, cf_pre hPc hK hDc hWd⟩ rfl rfl hl.1 rfl (lv_room (Nat.le_of_ble_eq_true rfl)) dRo_add_50 ⟨Nat.le_of_ble_eq_true rfl, Nat.le_of_ble_eq_true rfl⟩) (fun u H locs hw hP hD hS => ?_)
      obtain ⟨d2_4, rs2_5⟩ := u
      obtain ⟨g1, -⟩ := hw
      have hP : va_P D vwCl [(qc, .inl (cJ, 1024, .inr (.inl xs))), (qr, .inr (5, [.int (nI n), .int (nI d2_4), .int (nI rn2_1), .long (lMin lo v), .long (lMax hi v), .long sl2_2, .long sh2_3, .ref qc, .ref qs])), (qs, .inl (cJ, 1024, .inr (.inl rs2_5)))] H := hP
      have hD : va_D A [(qc, .inl (cJ, 1024, .inr (.inl xs))), (qr, .inr (5, [.int (nI n), .int (nI d2_4), .int (nI rn2_1), .long (lMin lo v), .long (lMax hi v), .long sl2_2, .long sh2_3, .ref qc, .ref qs])), (qs, .inl (cJ, 1024, .inr (.inl rs2_5)))] := hD
      refine lv_aload_n hx hb dRo_add_53 rfl (lv_at hl 0 rfl) ?_
      refine va_get (D := D) (ci := 5) (v := .ref qc) (C := "ColumnForms$Row") (T := TRo) (N := 9) hx hb hts inRo hown hK hP 1 rfl rfl 7 (by decide) (hts _ tw_55) (fun _ h9 => h9) rfl dRo_add_54 ?_
      refine lv_aload_n hx hb dRo_add_57 rfl (lv_at hl 0 rfl) ?_
      refine va_get (D := D) (ci := 5) (v := .int (nI n)) (C := "ColumnForms$Row") (T := TRo) (N := 9) hx hb hts inRo hown hK hP 1 rfl rfl 0 (by decide) (hts _ tw_40) (fun _ h9 => h9) rfl dRo_add_58 ?_
      refine lv_lload_n hx hb dRo_add_61 rfl (lv_at hl 1 rfl) ?_
      refine va_last hx hb hK hP hD hS 0 0 rfl rfl (vp_in_nI (by omega) (by omega)) dRo_add_62 (fun H locs hP hD hS => ?_)
      rw [nI_clamp (by omega)] at hP hD
      have hP : va_P D vwCl [(qc, .inl (cJ, 1024, .inr (.inl (vp_updL xs n v)))), (qr, .inr (5, [.int (nI n), .int (nI d2_4), .int (nI rn2_1), .long (lMin lo v), .long (lMax hi v), .long sl2_2, .long sh2_3, .ref qc, .ref qs])), (qs, .inl (cJ, 1024, .inr (.inl rs2_5)))] H := hP
      have hD : va_D A [(qc, .inl (cJ, 1024, .inr (.inl (vp_updL xs n v)))), (qr, .inr (5, [.int (nI n), .int (nI d2_4), .int (nI rn2_1), .long (lMin lo v), .long (lMax hi v), .long sl2_2, .long sh2_3, .ref qc, .ref qs])), (qs, .inl (cJ, 1024, .inr (.inl rs2_5)))] := hD
      refine lv_aload_n hx hb dRo_add_63 rfl (lv_at hl 0 rfl) ?_
      refine lv_dup hx hb dRo_add_64 rfl ?_
      refine va_get (D := D) (ci := 5) (v := .int (nI n)) (C := "ColumnForms$Row") (T := TRo) (N := 9) hx hb hts inRo hown hK hP 1 rfl rfl 0 (by decide) (hts _ tw_40) (fun _ h9 => h9) rfl dRo_add_65 ?_
      refine lv_iconst (v := nI 1) hx hb dRo_add_68 (by decide) ?_
      refine lv_iadd hx hb dRo_add_69 ?_
      refine tp_i (show ((nI n) + (nI 1)) = (nI (n + 1)) from nI_add _ _) ?_
      refine va_put (D := D) (ci := 5) (v := .int (nI (n + 1))) (ty := .int) (C := "ColumnForms$Row") (T := TRo) (N := 9) hx hb hts inRo tyRo tyRo_ok nmRo hown hK hP hD hS 1 rfl rfl 0 (by decide) (hts _ tw_40) (fun _ h9 => h9) rfl (by decide +kernel) rfl rfl (Nat.le_of_ble_eq_true rfl) dRo_add_70 (fun H locs hP hD hS => ?_)
      have hP : va_P D vwCl [(qc, .inl (cJ, 1024, .inr (.inl (vp_updL xs n v)))), (qr, .inr (5, [.int (nI (n + 1)), .int (nI d2_4), .int (nI rn2_1), .long (lMin lo v), .long (lMax hi v), .long sl2_2, .long sh2_3, .ref qc, .ref qs])), (qs, .inl (cJ, 1024, .inr (.inl rs2_5)))] H := hP
      have hD : va_D A [(qc, .inl (cJ, 1024, .inr (.inl (vp_updL xs n v)))), (qr, .inr (5, [.int (nI (n + 1)), .int (nI d2_4), .int (nI rn2_1), .long (lMin lo v), .long (lMax hi v), .long sl2_2, .long sh2_3, .ref qc, .ref qs])), (qs, .inl (cJ, 1024, .inr (.inl rs2_5)))] := hD
      exact hret (d2_4, rn2_1, (lMin lo v), (lMax hi v), sl2_2, sh2_3, rs2_5) _ _ _ _ _ _ ⟨rAll_n hR hn c15 f1 f2 f3 g1, trivial⟩ (hP.sub [1, 0, 2] rfl) (hD.sub [1, 0, 2] (by decide) rfl) hS (Nat.le_of_ble_eq_true rfl) (Nat.le_of_ble_eq_true rfl) dRo_add_73
    · have c15 : n = 0 := (nI_eq (b := 0) (by omega) (by omega)).mp c15
      refine lv_aload_n hx hb dRo_add_18 rfl (lv_at hl 0 rfl) ?_
      refine lv_lload_n hx hb dRo_add_19 rfl (lv_at hl 1 rfl) ?_
      refine kc_v (wc := [(qr, .inr (5, [.int (nI n), .int (nI d), .int (nI rn), .long lo, .long hi, .long sl, .long sh, .ref qc, .ref qs]))]) (wr := [(qc, .inl (cJ, 1024, .inr (.inl xs))), (qs, .inl (cJ, 1024, .inr (.inl rs)))]) hP hD hS hA [0] [1, 2] rfl rfl (by decide) (by decide) (by decide) (fun hPc hDc => va_runV (As := [.long v]) (rest := []) ⟨hx, hb, hml, hown, hts⟩ (c_noteFirst l D cJ cB cI cF qr n d rn lo hi sl sh qc qs v _) (cwV 1 hts (wsG_k tw_252 (wsG_k tw_254 (wsG_k tp_w1 (wsG_k tw_2 (wsG_c tw_255))))) rfl rfl rfl (by decide +kernel) ⟨Nat.le_of_ble_eq_true rfl, Nat.le_of_ble_eq_true rfl⟩) ⟨cf_blind, va_recv hK hPc (ci := 5) (q0 := 0) rfl rfl, cf_pre hPc hK hDc hWd⟩ rfl rfl hl.1 rfl (lv_room (Nat.le_of_ble_eq_true rfl)) dRo_add_20 ⟨Nat.le_of_ble_eq_true rfl, Nat.le_of_ble_eq_true rfl⟩) (fun u H locs hw hP hD hS => ?_)
      have hP : va_P D vwCl [(qc, .inl (cJ, 1024, .inr (.inl xs))), (qs, .inl (cJ, 1024, .inr (.inl rs))), (qr, .inr (5, [.int (nI n), .int (nI d), .int (nI 1), .long v, .long v, .long 0, .long 0, .ref qc, .ref qs]))] H := hP
      have hD : va_D A [(qc, .inl (cJ, 1024, .inr (.inl xs))), (qs, .inl (cJ, 1024, .inr (.inl rs))), (qr, .inr (5, [.int (nI n), .int (nI d), .int (nI 1), .long v, .long v, .long 0, .long 0, .ref qc, .ref qs]))] := hD
      refine lv_goto (tgt := 43) hx hb dRo_add_23 (by decide) ?_
      refine lv_aload_n hx hb dRo_add_43 rfl (lv_at hl 0 rfl) ?_
      refine lv_lload_n hx hb dRo_add_44 rfl (lv_at hl 1 rfl) ?_
      refine lv_aload_n hx hb dRo_add_45 rfl (lv_at hl 0 rfl) ?_
      refine lv_lload_n hx hb dRo_add_46 rfl (lv_at hl 1 rfl) ?_
      refine kc_i (wc := [(qr, .inr (5, [.int (nI n), .int (nI d), .int (nI 1), .long v, .long v, .long 0, .long 0, .ref qc, .ref qs])), (qs, .inl (cJ, 1024, .inr (.inl rs)))]) (wr := [(qc, .inl (cJ, 1024, .inr (.inl xs)))]) hP hD hS hA [2, 1] [0] rfl rfl (by decide) (by decide) (by decide) (fun hPc hDc => va_runV (As := [.long v]) (rest := [.long v, .ref qr]) ⟨hx, hb, hml, hown, hts⟩ (c_placeOf l D cJ cB cI cF qr n d 1 v v 0 0 qc qs rs v _ _ (by have := hI.2.1; omega) (ht)) (cwV 1 hts (wsG_k tw_270 (wsG_k tw_271 (wsG_k tw_272 (wsG_k tw_2 (wsG_c tw_273))))) rfl rfl rfl (by decide +kernel) ⟨Nat.le_of_ble_eq_true rfl, Nat.le_of_ble_eq_true rfl⟩) ⟨cf_blind, va_recv hK hPc (ci := 5) (q0 := 0) rfl rfl, cf_pre hPc hK hDc hWd⟩ rfl rfl hl.1 rfl (lv_room (Nat.le_of_ble_eq_true rfl)) dRo_add_47 ⟨Nat.le_of_ble_eq_true rfl, Nat.le_of_ble_eq_true rfl⟩) (fun r u H locs hw hP hD hS => ?_)
      obtain ⟨rfl, -⟩ := hw
      have hP : va_P D vwCl [(qc, .inl (cJ, 1024, .inr (.inl xs))), (qr, .inr (5, [.int (nI n), .int (nI d), .int (nI 1), .long v, .long v, .long 0, .long 0, .ref qc, .ref qs])), (qs, .inl (cJ, 1024, .inr (.inl rs)))] H := hP
      have hD : va_D A [(qc, .inl (cJ, 1024, .inr (.inl xs))), (qr, .inr (5, [.int (nI n), .int (nI d), .int (nI 1), .long v, .long v, .long 0, .long 0, .ref qc, .ref qs])), (qs, .inl (cJ, 1024, .inr (.inl rs)))] := hD
      refine kc_v (wc := [(qr, .inr (5, [.int (nI n), .int (nI d), .int (nI 1), .long v, .long v, .long 0, .long 0, .ref qc, .ref qs])), (qs, .inl (cJ, 1024, .inr (.inl rs)))]) (wr := [(qc, .inl (cJ, 1024, .inr (.inl xs)))]) hP hD hS hA [1, 2] [0] rfl rfl (by decide) (by decide) (by decide) (fun hPc hDc => va_runV (As := [.long v, .int (nI t)]) (rest := []) ⟨hx, hb, hml, hown, hts⟩ (c_noteDif l D cJ cB cI cF qr n d 1 v v 0 0 qc qs _ rs v t _ (hI) (hn) (ht)) (cwV 2 hts (wsG_k tw_278 (wsG_k tw_280 (wsG_k tp_w3 (wsG_k tw_2 (wsG_c tw_281))))) rfl rfl rfl (by decide +kernel) ⟨Nat.le_of_ble_eq_true rfl, Nat.le_of_ble_eq_true rfl⟩) ⟨cf_blind, va_recv hK hPc (ci := 5) (q0 := 0) rfl rfl, cf_pre hPc hK hDc hWd⟩ rfl rfl hl.1 rfl (lv_room (Nat.le_of_ble_eq_true rfl)) dRo_add_50 ⟨Nat.le_of_ble_eq_true rfl, Nat.le_of_ble_eq_true rfl⟩) (fun u H locs hw hP hD hS => ?_)
      obtain ⟨d2_6, rs2_7⟩ := u
      obtain ⟨g1, -⟩ := hw
      have hP : va_P D vwCl [(qc, .inl (cJ, 1024, .inr (.inl xs))), (qr, .inr (5, [.int (nI n), .int (nI d2_6), .int (nI 1), .long v, .long v, .long 0, .long 0, .ref qc, .ref qs])), (qs, .inl (cJ, 1024, .inr (.inl rs2_7)))] H := hP
      have hD : va_D A [(qc, .inl (cJ, 1024, .inr (.inl xs))), (qr, .inr (5, [.int (nI n), .int (nI d2_6), .int (nI 1), .long v, .long v, .long 0, .long 0, .ref qc, .ref qs])), (qs, .inl (cJ, 1024, .inr (.inl rs2_7)))] := hD
      refine lv_aload_n hx hb dRo_add_53 rfl (lv_at hl 0 rfl) ?_
      refine va_get (D := D) (ci := 5) (v := .ref qc) (C := "ColumnForms$Row") (T := TRo) (N := 9) hx hb hts inRo hown hK hP 1 rfl rfl 7 (by decide) (hts _ tw_55) (fun _ h9 => h9) rfl dRo_add_54 ?_
      refine lv_aload_n hx hb dRo_add_57 rfl (lv_at hl 0 rfl) ?_
      refine va_get (D := D) (ci := 5) (v := .int (nI n)) (C := "ColumnForms$Row") (T := TRo) (N := 9) hx hb hts inRo hown hK hP 1 rfl rfl 0 (by decide) (hts _ tw_40) (fun _ h9 => h9) rfl dRo_add_58 ?_
      refine lv_lload_n hx hb dRo_add_61 rfl (lv_at hl 1 rfl) ?_
      refine va_last hx hb hK hP hD hS 0 0 rfl rfl (vp_in_nI (by omega) (by omega)) dRo_add_62 (fun H locs hP hD hS => ?_)
      rw [nI_clamp (by omega)] at hP hD
      have hP : va_P D vwCl [(qc, .inl (cJ, 1024, .inr (.inl (vp_updL xs n v)))), (qr, .inr (5, [.int (nI n), .int (nI d2_6), .int (nI 1), .long v, .long v, .long 0, .long 0, .ref qc, .ref qs])), (qs, .inl (cJ, 1024, .inr (.inl rs2_7)))] H := hP
      have hD : va_D A [(qc, .inl (cJ, 1024, .inr (.inl (vp_updL xs n v)))), (qr, .inr (5, [.int (nI n), .int (nI d2_6), .int (nI 1), .long v, .long v, .long 0, .long 0, .ref qc, .ref qs])), (qs, .inl (cJ, 1024, .inr (.inl rs2_7)))] := hD
      refine lv_aload_n hx hb dRo_add_63 rfl (lv_at hl 0 rfl) ?_
      refine lv_dup hx hb dRo_add_64 rfl ?_
      refine va_get (D := D) (ci := 5) (v := .int (nI n)) (C := "ColumnForms$Row") (T := TRo) (N := 9) hx hb hts inRo hown hK hP 1 rfl rfl 0 (by decide) (hts _ tw_40) (fun _ h9 => h9) rfl dRo_add_65 ?_
      refine lv_iconst (v := nI 1) hx hb dRo_add_68 (by decide) ?_
      refine lv_iadd hx hb dRo_add_69 ?_
      refine tp_i (show ((nI n) + (nI 1)) = (nI (n + 1)) from nI_add _ _) ?_
      refine va_put (D := D) (ci := 5) (v := .int (nI (n + 1))) (ty := .int) (C := "ColumnForms$Row") (T := TRo) (N := 9) hx hb hts inRo tyRo tyRo_ok nmRo hown hK hP hD hS 1 rfl rfl 0 (by decide) (hts _ tw_40) (fun _ h9 => h9) rfl (by decide +kernel) rfl rfl (Nat.le_of_ble_eq_true rfl) dRo_add_70 (fun H locs hP hD hS => ?_)
      have hP : va_P D vwCl [(qc, .inl (cJ, 1024, .inr (.inl (vp_updL xs n v)))), (qr, .inr (5, [.int (nI (n + 1)), .int (nI d2_6), .int (nI 1), .long v, .long v, .long 0, .long 0, .ref qc, .ref qs])), (qs, .inl (cJ, 1024, .inr (.inl rs2_7)))] H := hP
      have hD : va_D A [(qc, .inl (cJ, 1024, .inr (.inl (vp_updL xs n v)))), (qr, .inr (5, [.int (nI (n + 1)), .int (nI d2_6), .int (nI 1), .long v, .long v, .long 0, .long 0, .ref qc, .ref qs])), (qs, .inl (cJ, 1024, .inr (.inl rs2_7)))] := hD
      exact hret (d2_6, 1, v, v, 0, 0, rs2_7) _ _ _ _ _ _ ⟨rAll_1 hR hn c15 g1, trivial⟩ (hP.sub [1, 0, 2] rfl) (hD.sub [1, 0, 2] (by decide) rfl) hS (Nat.le_of_ble_eq_true rfl) (Nat.le_of_ble_eq_true rfl) dRo_add_73
  · have c7 : ¬ n < 1024 := fun h => c7 ((nI_ltI (by omega) (by omega)).mpr h)
    exact absurd c7 (by omega)

