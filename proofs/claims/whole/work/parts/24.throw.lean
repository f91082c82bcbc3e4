set_option maxHeartbeats 4000000 in
set_option maxRecDepth 100000 in
theorem x_put (l : Launch) (D : va_G) (cJ cB cI cF : ClassId) (qx : Nat) (qb : Nat) (qA : Nat) (cf : Int32) (ccv : Int32) (qr : Nat) (n : Nat) (d : Nat) (rn : Nat) (lo : Int64) (hi : Int64) (sl : Int64) (sh : Int64) (qc : Nat) (qs : Nat) (v : Int64) (sz : Nat) (hl0 : l.stackTraces = false) (hn : n = 1024) : vx_Met l yCf_put (Cond.code yCf_put cCf_put 3 (some .int) :: wsG) ({ frames := 6, cells := 1, slots := 6, locals := 82 }) (va_Pc [.ref qx, .long v] (cfPreX D (cfT cJ cB cI cF) [(qx, .inr (8, [.ref qr, .ref qb, .ref qA, .int cf, .int ccv])), (qr, .inr (5, [.int (nI n), .int (nI d), .int (nI rn), .long lo, .long hi, .long sl, .long sh, .ref qc, .ref qs]))] sz)) cfNo (cfX cfISE D [(qx, .inr (8, [.ref qr, .ref qb, .ref qA, .int cf, .int ccv])), (qr, .inr (5, [.int (nI n), .int (nI d), .int (nI rn), .long lo, .long hi, .long sl, .long sh, .ref qc, .ref qs]))] (va_A [(qx, .inr (8, [.ref qr, .ref qb, .ref qA, .int cf, .int ccv])), (qr, .inr (5, [.int (nI n), .int (nI d), .int (nI rn), .long lo, .long hi, .long sl, .long sh, .ref qc, .ref qs]))] sz)) 1 6 (va_A [(qx, .inr (8, [.ref qr, .ref qb, .ref qA, .int cf, .int ccv])), (qr, .inr (5, [.int (nI n), .int (nI d), .int (nI rn), .long lo, .long hi, .long sl, .long sh, .ref qc, .ref qs]))] sz) := by
  refine metx (cc := cCf_put) (maxL := 3) (D := D) (by decide) (Nat.le_of_ble_eq_true rfl) ?_
  intro p e s m below meth c hx hb hml hown hts hlocks hin hWd hht A hA hsz hP hK hD hS hX ls hl
  have hown : s.vm.findClass "ColumnForms" = some m.cls := hown
  have hl : lv_has ls 3 [(0, .ref qx), (1, .long v)] := hl
  have hP : va_P D vwCl [(qx, .inr (8, [.ref qr, .ref qb, .ref qA, .int cf, .int ccv])), (qr, .inr (5, [.int (nI n), .int (nI d), .int (nI rn), .long lo, .long hi, .long sl, .long sh, .ref qc, .ref qs]))] s.heap := hP
  refine lv_aload_n hx hb dCf_put_0 rfl (lv_at hl 0 rfl) ?_
  refine va_get (D := D) (ci := 8) (v := .ref qr) (C := "ColumnForms") (T := TCf) (N := 5) hx hb hts inCf hown hK hP 0 rfl rfl 0 (by decide) (hts _ tw_135) (fun _ h9 => h9) rfl dCf_put_1 ?_
  refine va_get (D := D) (ci := 5) (v := .int (nI n)) (C := "ColumnForms$Row") (T := TRo) (N := 9) hx hb hts inRo hown hK hP 1 rfl rfl 0 (by decide) (hts _ tw_38) (fun _ h9 => h9) rfl dCf_put_4 ?_
  refine lv_sipush (v := nI 1024) hx hb dCf_put_7 (by decide) ?_
  refine lv_icmp_lt (tgt := 23) hx hb dCf_put_10 (by decide) (fun c10 => ?_) (fun c10 => ?_)
  · have c10 : n < 1024 := (nI_ltI (by omega) (by omega)).mp c10
    exact absurd c10 (by omega)
  · have c10 : ¬ n < 1024 := fun h => c10 ((nI_ltI (by omega) (by omega)).mpr h)
    exact thr_S (Q := fun _ => True) hx hb hl0 hown hts hWd hX (by decide +kernel) tw_182 tw_14 at_ISE 0 rfl (hP.sub [0, 1] rfl) (hD.sub [0, 1] (by decide) rfl) hS (hl.1.trans hml.symm) dCf_put_13 dCf_put_16 dCf_put_17 dCf_put_19 dCf_put_22 hht (Nat.le_of_ble_eq_true rfl) (Nat.le_of_ble_eq_true rfl) (Nat.le_of_ble_eq_true rfl) (Nat.le_of_ble_eq_true rfl) hlocks (Nat.le_of_ble_eq_true rfl) (Nat.le_of_ble_eq_true rfl)

set_option maxHeartbeats 4000000 in
set_option maxRecDepth 100000 in
theorem x_fill1 (l : Launch) (D : va_G) (cJ cB cI cF : ClassId) (qr : Nat) (qx : Nat) (qb : Nat) (qA : Nat) (cf : Int32) (ccv : Int32) (a : Int64) (st : Int64) (nv : Int32) (sz : Nat) (hl0 : l.stackTraces = false) (hbad : ¬ ∃ j, 1 ≤ j ∧ j ≤ 1024 ∧ nv = nI j) : vx_Met l yCf_fill (Cond.code yCf_fill cCf_fill 9 (some .int) :: wsG) ({ frames := 6, cells := 1, slots := 6, locals := 82 }) (va_Pc [.ref qx, .long a, .long st, .int nv] (cfPreX D (cfT cJ cB cI cF) [(qx, .inr (8, [.ref qr, .ref qb, .ref qA, .int cf, .int ccv]))] sz)) cfNo (cfX cfIAE D [(qx, .inr (8, [.ref qr, .ref qb, .ref qA, .int cf, .int ccv]))] (va_A [(qx, .inr (8, [.ref qr, .ref qb, .ref qA, .int cf, .int ccv]))] sz)) 1 6 (va_A [(qx, .inr (8, [.ref qr, .ref qb, .ref qA, .int cf, .int ccv]))] sz) := by
  refine metx (cc := cCf_fill) (maxL := 9) (D := D) (by decide) (Nat.le_of_ble_eq_true rfl) ?_
  intro p e s m below meth c hx hb hml hown hts hlocks hin hWd hht A hA hsz hP hK hD hS hX ls hl
  have hown : s.vm.findClass "ColumnForms" = some m.cls := hown
  have hl : lv_has ls 9 [(0, .ref qx), (1, .long a), (3, .long st), (5, .int nv)] := hl
  have hP : va_P D vwCl [(qx, .inr (8, [.ref qr, .ref qb, .ref qA, .int cf, .int ccv]))] s.heap := hP
  refine lv_iload hx hb dCf_fill_0 (lv_at hl 3 rfl) ?_
  refine lv_iconst (v := nI 1) hx hb dCf_fill_2 (by decide) ?_
  refine lv_icmp_lt (tgt := 14) hx hb dCf_fill_3 (by decide) (fun c3 => ?_) (fun c3 => ?_)
  · exact thr_S (Q := fun _ => True) hx hb hl0 hown hts hWd hX (by decide +kernel) tw_293 tw_17 at_IAE 1 rfl (hP.sub [0] rfl) (hD.sub [0] (by decide) rfl) hS (hl.1.trans hml.symm) dCf_fill_14 dCf_fill_17 dCf_fill_18 dCf_fill_20 dCf_fill_23 hht (Nat.le_of_ble_eq_true rfl) (Nat.le_of_ble_eq_true rfl) (Nat.le_of_ble_eq_true rfl) (Nat.le_of_ble_eq_true rfl) hlocks (Nat.le_of_ble_eq_true rfl) (Nat.le_of_ble_eq_true rfl)
  · refine lv_iload hx hb dCf_fill_6 (lv_at hl 3 rfl) ?_
    refine lv_sipush (v := nI 1024) hx hb dCf_fill_8 (by decide) ?_
    refine lv_icmp_le (tgt := 24) hx hb dCf_fill_11 (by decide) (fun c11 => ?_) (fun c11 => ?_)
    · exact absurd (i_btw c3 c11 (by omega)) hbad
    · exact thr_S (Q := fun _ => True) hx hb hl0 hown hts hWd hX (by decide +kernel) tw_293 tw_17 at_IAE 1 rfl (hP.sub [0] rfl) (hD.sub [0] (by decide) rfl) hS (hl.1.trans hml.symm) dCf_fill_14 dCf_fill_17 dCf_fill_18 dCf_fill_20 dCf_fill_23 hht (Nat.le_of_ble_eq_true rfl) (Nat.le_of_ble_eq_true rfl) (Nat.le_of_ble_eq_true rfl) (Nat.le_of_ble_eq_true rfl) hlocks (Nat.le_of_ble_eq_true rfl) (Nat.le_of_ble_eq_true rfl)

set_option maxHeartbeats 4000000 in
set_option maxRecDepth 100000 in
theorem x_fill2 (l : Launch) (D : va_G) (cJ cB cI cF : ClassId) (qx : Nat) (qb : Nat) (qA : Nat) (cf : Int32) (ccv : Int32) (qr : Nat) (n : Nat) (d : Nat) (rn : Nat) (lo : Int64) (hi : Int64) (sl : Int64) (sh : Int64) (qc : Nat) (qs : Nat) (a : Int64) (st : Int64) (k : Nat) (sz : Nat) (hl0 : l.stackTraces = false) (hn : n ≤ 1024) (hk1 : 1 ≤ k) (hk2 : k ≤ 1024) (hk3 : 1024 < n + k) : vx_Met l yCf_fill (Cond.code yCf_fill cCf_fill 9 (some .int) :: wsG) ({ frames := 6, cells := 1, slots := 6, locals := 82 }) (va_Pc [.ref qx, .long a, .long st, .int (nI k)] (cfPreX D (cfT cJ cB cI cF) [(qx, .inr (8, [.ref qr, .ref qb, .ref qA, .int cf, .int ccv])), (qr, .inr (5, [.int (nI n), .int (nI d), .int (nI rn), .long lo, .long hi, .long sl, .long sh, .ref qc, .ref qs]))] sz)) cfNo (cfX cfISE D [(qx, .inr (8, [.ref qr, .ref qb, .ref qA, .int cf, .int ccv])), (qr, .inr (5, [.int (nI n), .int (nI d), .int (nI rn), .long lo, .long hi, .long sl, .long sh, .ref qc, .ref qs]))] (va_A [(qx, .inr (8, [.ref qr, .ref qb, .ref qA, .int cf, .int ccv])), (qr, .inr (5, [.int (nI n), .int (nI d), .int (nI rn), .long lo, .long hi, .long sl, .long sh, .ref qc, .ref qs]))] sz)) 1 6 (va_A [(qx, .inr (8, [.ref qr, .ref qb, .ref qA, .int cf, .int ccv])), (qr, .inr (5, [.int (nI n), .int (nI d), .int (nI rn), .long lo, .long hi, .long sl, .long sh, .ref qc, .ref qs]))] sz) := by
  refine metx (cc := cCf_fill) (maxL := 9) (D := D) (by decide) (Nat.le_of_ble_eq_true rfl) ?_
  intro p e s m below meth c hx hb hml hown hts hlocks hin hWd hht A hA hsz hP hK hD hS hX ls hl
  have hown : s.vm.findClass "ColumnForms" = some m.cls := hown
  have hl : lv_has ls 9 [(0, .ref qx), (1, .long a), (3, .long st), (5, .int (nI k))] := hl
  have hP : va_P D vwCl [(qx, .inr (8, [.ref qr, .ref qb, .ref qA, .int cf, .int ccv])), (qr, .inr (5, [.int (nI n), .int (nI d), .int (nI rn), .long lo, .long hi, .long sl, .long sh, .ref qc, .ref qs]))] s.heap := hP
  refine lv_iload hx hb dCf_fill_0 (lv_at hl 3 rfl) ?_
  refine lv_iconst (v := nI 1) hx hb dCf_fill_2 (by decide) ?_
  refine lv_icmp_lt (tgt := 14) hx hb dCf_fill_3 (by decide) (fun c3 => ?_) (fun c3 => ?_)
  · have c3 : k < 1 := (nI_ltI (by omega) (by omega)).mp c3
    exact absurd c3 (by omega)
  · have c3 : ¬ k < 1 := fun h => c3 ((nI_ltI (by omega) (by omega)).mpr h)
    refine lv_iload hx hb dCf_fill_6 (lv_at hl 3 rfl) ?_
    refine lv_sipush (v := nI 1024) hx hb dCf_fill_8 (by decide) ?_
    refine lv_icmp_le (tgt := 24) hx hb dCf_fill_11 (by decide) (fun c11 => ?_) (fun c11 => ?_)
    · have c11 : k ≤ 1024 := (nI_leI (by omega) (by omega)).mp c11
      refine lv_iload hx hb dCf_fill_24 (lv_at hl 3 rfl) ?_
      refine lv_sipush (v := nI 1024) hx hb dCf_fill_26 (by decide) ?_
      refine lv_aload_n hx hb dCf_fill_29 rfl (lv_at hl 0 rfl) ?_
      refine va_get (D := D) (ci := 8) (v := .ref qr) (C := "ColumnForms") (T := TCf) (N := 5) hx hb hts inCf hown hK hP 0 rfl rfl 0 (by decide) (hts _ tw_135) (fun _ h9 => h9) rfl dCf_fill_30 ?_
      refine va_get (D := D) (ci := 5) (v := .int (nI n)) (C := "ColumnForms$Row") (T := TRo) (N := 9) hx hb hts inRo hown hK hP 1 rfl rfl 0 (by decide) (hts _ tw_38) (fun _ h9 => h9) rfl dCf_fill_33 ?_
      refine lv_isub hx hb dCf_fill_36 ?_
      refine tp_i (show ((nI 1024) - (nI n)) = (nI (1024 - n)) from pk_sub (by omega)) ?_
      refine lv_icmp_le (tgt := 50) hx hb dCf_fill_37 (by decide) (fun c37 => ?_) (fun c37 => ?_)
      · have c37 : k ≤ (1024 - n) := (nI_leI (by omega) (by omega)).mp c37
        exact absurd c37 (by omega)
      · have c37 : ¬ k ≤ (1024 - n) := fun h => c37 ((nI_leI (by omega) (by omega)).mpr h)
        exact thr_S (Q := fun _ => True) hx hb hl0 hown hts hWd hX (by decide +kernel) tw_182 tw_14 at_ISE 2 rfl (hP.sub [0, 1] rfl) (hD.sub [0, 1] (by decide) rfl) hS (hl.1.trans hml.symm) dCf_fill_40 dCf_fill_43 dCf_fill_44 dCf_fill_46 dCf_fill_49 hht (Nat.le_of_ble_eq_true rfl) (Nat.le_of_ble_eq_true rfl) (Nat.le_of_ble_eq_true rfl) (Nat.le_of_ble_eq_true rfl) hlocks (Nat.le_of_ble_eq_true rfl) (Nat.le_of_ble_eq_true rfl)
    · have c11 : ¬ k ≤ 1024 := fun h => c11 ((nI_leI (by omega) (by omega)).mpr h)
      exact absurd c11 (by omega)

set_option maxHeartbeats 4000000 in
set_option maxRecDepth 100000 in
theorem x_refF (l : Launch) (D : va_G) (cJ cB cI cF : ClassId) (fo : Int32) (sz : Nat) (hl0 : l.stackTraces = false) (hbad : ¬ ∃ j, j < 5 ∧ fo = nI j) : vx_Met l yCf_refuseUnknownForm (Cond.code yCf_refuseUnknownForm cCf_refuseUnknownForm 1 none :: wsG) ({ frames := 6, cells := 1, slots := 6, locals := 82 }) (va_Pc [.int fo] (cfPreX D (cfT cJ cB cI cF) [] sz)) cfNo (cfX cfIAE D [] (va_A [] sz)) 1 6 (va_A [] sz) := by
  refine metx (cc := cCf_refuseUnknownForm) (maxL := 1) (D := D) (by decide) (Nat.le_of_ble_eq_true rfl) ?_
  intro p e s m below meth c hx hb hml hown hts hlocks hin hWd hht A hA hsz hP hK hD hS hX ls hl
  have hown : s.vm.findClass "ColumnForms" = some m.cls := hown
  have hl : lv_has ls 1 [(0, .int fo)] := hl
  have hP : va_P D vwCl [] s.heap := hP
  refine lv_iload_n hx hb dCf_refuseUnknownForm_0 rfl (lv_at hl 0 rfl) ?_
  refine lv_if_lt (tgt := 9) hx hb dCf_refuseUnknownForm_1 (by decide) (fun c1 => ?_) (fun c1 => ?_)
  · exact thr_S (Q := fun _ => True) hx hb hl0 hown hts hWd hX (by decide +kernel) tw_293 tw_17 at_IAE 3 rfl (hP.sub [] rfl) (hD.sub [] (by decide) rfl) hS (hl.1.trans hml.symm) dCf_refuseUnknownForm_9 dCf_refuseUnknownForm_12 dCf_refuseUnknownForm_13 dCf_refuseUnknownForm_15 dCf_refuseUnknownForm_18 hht (Nat.le_of_ble_eq_true rfl) (Nat.le_of_ble_eq_true rfl) (Nat.le_of_ble_eq_true rfl) (Nat.le_of_ble_eq_true rfl) hlocks (Nat.le_of_ble_eq_true rfl) (Nat.le_of_ble_eq_true rfl)
  · refine lv_iload_n hx hb dCf_refuseUnknownForm_4 rfl (lv_at hl 0 rfl) ?_
    refine lv_iconst (v := nI 5) hx hb dCf_refuseUnknownForm_5 (by decide) ?_
    refine lv_icmp_lt (tgt := 19) hx hb dCf_refuseUnknownForm_6 (by decide) (fun c6 => ?_) (fun c6 => ?_)
    · exact absurd (i_lt c1 c6 (by omega)) hbad
    · exact thr_S (Q := fun _ => True) hx hb hl0 hown hts hWd hX (by decide +kernel) tw_293 tw_17 at_IAE 3 rfl (hP.sub [] rfl) (hD.sub [] (by decide) rfl) hS (hl.1.trans hml.symm) dCf_refuseUnknownForm_9 dCf_refuseUnknownForm_12 dCf_refuseUnknownForm_13 dCf_refuseUnknownForm_15 dCf_refuseUnknownForm_18 hht (Nat.le_of_ble_eq_true rfl) (Nat.le_of_ble_eq_true rfl) (Nat.le_of_ble_eq_true rfl) (Nat.le_of_ble_eq_true rfl) hlocks (Nat.le_of_ble_eq_true rfl) (Nat.le_of_ble_eq_true rfl)

set_option maxHeartbeats 4000000 in
set_option maxRecDepth 100000 in
theorem x_refE (l : Launch) (D : va_G) (cJ cB cI cF : ClassId) (qx : Nat) (qb : Nat) (qA : Nat) (cf : Int32) (ccv : Int32) (qr : Nat) (n : Nat) (d : Nat) (rn : Nat) (lo : Int64) (hi : Int64) (sl : Int64) (sh : Int64) (qc : Nat) (qs : Nat) (sz : Nat) (hl0 : l.stackTraces = false) (hn : n = 0) : vx_Met l yCf_refuseEmptyRow (Cond.code yCf_refuseEmptyRow cCf_refuseEmptyRow 1 none :: wsG) ({ frames := 6, cells := 1, slots := 6, locals := 82 }) (va_Pc [.ref qx] (cfPreX D (cfT cJ cB cI cF) [(qx, .inr (8, [.ref qr, .ref qb, .ref qA, .int cf, .int ccv])), (qr, .inr (5, [.int (nI n), .int (nI d), .int (nI rn), .long lo, .long hi, .long sl, .long sh, .ref qc, .ref qs]))] sz)) cfNo (cfX cfISE D [(qx, .inr (8, [.ref qr, .ref qb, .ref qA, .int cf, .int ccv])), (qr, .inr (5, [.int (nI n), .int (nI d), .int (nI rn), .long lo, .long hi, .long sl, .long sh, .ref qc, .ref qs]))] (va_A [(qx, .inr (8, [.ref qr, .ref qb, .ref qA, .int cf, .int ccv])), (qr, .inr (5, [.int (nI n), .int (nI d), .int (nI rn), .long lo, .long hi, .long sl, .long sh, .ref qc, .ref qs]))] sz)) 1 6 (va_A [(qx, .inr (8, [.ref qr, .ref qb, .ref qA, .int cf, .int ccv])), (qr, .inr (5, [.int (nI n), .int (nI d), .int (nI rn), .long lo, .long hi, .long sl, .long sh, .ref qc, .ref qs]))] sz) := by
  refine metx (cc := cCf_refuseEmptyRow) (maxL := 1) (D := D) (by decide) (Nat.le_of_ble_eq_true rfl) ?_
  intro p e s m below meth c hx hb hml hown hts hlocks hin hWd hht A hA hsz hP hK hD hS hX ls hl
  have hown : s.vm.findClass "ColumnForms" = some m.cls := hown
  have hl : lv_has ls 1 [(0, .ref qx)] := hl
  have hP : va_P D vwCl [(qx, .inr (8, [.ref qr, .ref qb, .ref qA, .int cf, .int ccv])), (qr, .inr (5, [.int (nI n), .int (nI d), .int (nI rn), .long lo, .long hi, .long sl, .long sh, .ref qc, .ref qs]))] s.heap := hP
  refine lv_aload_n hx hb dCf_refuseEmptyRow_0 rfl (lv_at hl 0 rfl) ?_
  refine va_get (D := D) (ci := 8) (v := .ref qr) (C := "ColumnForms") (T := TCf) (N := 5) hx hb hts inCf hown hK hP 0 rfl rfl 0 (by decide) (hts _ tw_135) (fun _ h9 => h9) rfl dCf_refuseEmptyRow_1 ?_
  refine va_get (D := D) (ci := 5) (v := .int (nI n)) (C := "ColumnForms$Row") (T := TRo) (N := 9) hx hb hts inRo hown hK hP 1 rfl rfl 0 (by decide) (hts _ tw_38) (fun _ h9 => h9) rfl dCf_refuseEmptyRow_4 ?_
  refine lv_if_ne (tgt := 20) hx hb dCf_refuseEmptyRow_7 (by decide) (fun c7 => ?_) (fun c7 => ?_)
  · have c7 : ¬ n = 0 := fun h => c7 ((nI_eq (b := 0) (by omega) (by omega)).mpr h)
    exact absurd hn c7
  · have c7 : n = 0 := (nI_eq (b := 0) (by omega) (by omega)).mp c7
    exact thr_S (Q := fun _ => True) hx hb hl0 hown hts hWd hX (by decide +kernel) tw_182 tw_14 at_ISE 4 rfl (hP.sub [0, 1] rfl) (hD.sub [0, 1] (by decide) rfl) hS (hl.1.trans hml.symm) dCf_refuseEmptyRow_10 dCf_refuseEmptyRow_13 dCf_refuseEmptyRow_14 dCf_refuseEmptyRow_16 dCf_refuseEmptyRow_19 hht (Nat.le_of_ble_eq_true rfl) (Nat.le_of_ble_eq_true rfl) (Nat.le_of_ble_eq_true rfl) (Nat.le_of_ble_eq_true rfl) hlocks (Nat.le_of_ble_eq_true rfl) (Nat.le_of_ble_eq_true rfl)

set_option maxHeartbeats 4000000 in
set_option maxRecDepth 100000 in
theorem x_refN (l : Launch) (D : va_G) (cJ cB cI cF : ClassId) (qr : Nat) (qx : Nat) (qb : Nat) (qA : Nat) (cf : Int32) (ccv : Int32) (sz : Nat) (hl0 : l.stackTraces = false) (hcf : cf = -1) : vx_Met l yCf_refuseNoColumn (Cond.code yCf_refuseNoColumn cCf_refuseNoColumn 1 none :: wsG) ({ frames := 6, cells := 1, slots := 6, locals := 82 }) (va_Pc [.ref qx] (cfPreX D (cfT cJ cB cI cF) [(qx, .inr (8, [.ref qr, .ref qb, .ref qA, .int cf, .int ccv]))] sz)) cfNo (cfX cfISE D [(qx, .inr (8, [.ref qr, .ref qb, .ref qA, .int cf, .int ccv]))] (va_A [(qx, .inr (8, [.ref qr, .ref qb, .ref qA, .int cf, .int ccv]))] sz)) 1 6 (va_A [(qx, .inr (8, [.ref qr, .ref qb, .ref qA, .int cf, .int ccv]))] sz) := by
  refine metx (cc := cCf_refuseNoColumn) (maxL := 1) (D := D) (by decide) (Nat.le_of_ble_eq_true rfl) ?_
  intro p e s m below meth c hx hb hml hown hts hlocks hin hWd hht A hA hsz hP hK hD hS hX ls hl
  have hown : s.vm.findClass "ColumnForms" = some m.cls := hown
  have hl : lv_has ls 1 [(0, .ref qx)] := hl
  have hP : va_P D vwCl [(qx, .inr (8, [.ref qr, .ref qb, .ref qA, .int cf, .int ccv]))] s.heap := hP
  refine lv_aload_n hx hb dCf_refuseNoColumn_0 rfl (lv_at hl 0 rfl) ?_
  refine va_get (D := D) (ci := 8) (v := .int cf) (C := "ColumnForms") (T := TCf) (N := 5) hx hb hts inCf hown hK hP 0 rfl rfl 3 (by decide) (hts _ tw_138) (fun _ h9 => h9) rfl dCf_refuseNoColumn_1 ?_
  refine lv_iconst (v := (-1)) hx hb dCf_refuseNoColumn_4 (by decide) ?_
  refine lv_icmp_ne (tgt := 18) hx hb dCf_refuseNoColumn_5 (by decide) (fun c5 => ?_) (fun c5 => ?_)
  · exact absurd hcf c5
  · exact thr_S (Q := fun _ => True) hx hb hl0 hown hts hWd hX (by decide +kernel) tw_182 tw_14 at_ISE 8 rfl (hP.sub [0] rfl) (hD.sub [0] (by decide) rfl) hS (hl.1.trans hml.symm) dCf_refuseNoColumn_8 dCf_refuseNoColumn_11 dCf_refuseNoColumn_12 dCf_refuseNoColumn_14 dCf_refuseNoColumn_17 hht (Nat.le_of_ble_eq_true rfl) (Nat.le_of_ble_eq_true rfl) (Nat.le_of_ble_eq_true rfl) (Nat.le_of_ble_eq_true rfl) hlocks (Nat.le_of_ble_eq_true rfl) (Nat.le_of_ble_eq_true rfl)

set_option maxHeartbeats 4000000 in
set_option maxRecDepth 100000 in
theorem x_weight1 (l : Launch) (D : va_G) (cJ cB cI cF : ClassId) (qr : Nat) (qx : Nat) (qb : Nat) (qA : Nat) (cf : Int32) (ccv : Int32) (fo : Int32) (sz : Nat) (hl0 : l.stackTraces = false) (hbad : ¬ ∃ j, j < 5 ∧ fo = nI j) : vx_Met l yCf_weight (Cond.code yCf_weight cCf_weight 2 (some .int) :: wsG) ({ frames := 7, cells := 1, slots := 6, locals := 102 }) (va_Pc [.ref qx, .int fo] (cfPreX D (cfT cJ cB cI cF) [(qx, .inr (8, [.ref qr, .ref qb, .ref qA, .int cf, .int ccv]))] sz)) cfNo (cfX cfIAE D [(qx, .inr (8, [.ref qr, .ref qb, .ref qA, .int cf, .int ccv]))] (va_A [(qx, .inr (8, [.ref qr, .ref qb, .ref qA, .int cf, .int ccv]))] sz)) 1 6 (va_A [(qx, .inr (8, [.ref qr, .ref qb, .ref qA, .int cf, .int ccv]))] sz) := by
  refine metx (cc := cCf_weight) (maxL := 2) (D := D) (by decide) (Nat.le_of_ble_eq_true rfl) ?_
  intro p e s m below meth c hx hb hml hown hts hlocks hin hWd hht A hA hsz hP hK hD hS hX ls hl
  have hown : s.vm.findClass "ColumnForms" = some m.cls := hown
  have hl : lv_has ls 2 [(0, .ref qx), (1, .int fo)] := hl
  have hP : va_P D vwCl [(qx, .inr (8, [.ref qr, .ref qb, .ref qA, .int cf, .int ccv]))] s.heap := hP
  refine lv_iload_n hx hb dCf_weight_0 rfl (lv_at hl 1 rfl) ?_
  refine kcx (wc := []) (wr := [(qx, .inr (8, [.ref qr, .ref qb, .ref qA, .int cf, .int ccv]))]) hP hD hS hA [] [0] rfl rfl (by decide) (by decide) (by decide) (fun hPc hDc hFc => vx_runS (As := [.int fo]) (rest := []) ⟨hx, hb, hml, hown, hts⟩ (x_refF l D cJ cB cI cF fo _ hl0 (hbad)) (va_cwS 1 hts (wsG_k tw_317 (wsG_k tw_318 (wsG_k tw_1 (wsG_c tw_319)))) rfl rfl rfl (by decide +kernel) ⟨Nat.le_of_ble_eq_true rfl, Nat.le_of_ble_eq_true rfl⟩) ⟨cf_blindX, cf_preX hPc hK hDc hWd hX hS hFc⟩ rfl rfl hl.1 rfl (lv_room (Nat.le_of_ble_eq_true rfl)) dCf_weight_1 ⟨Nat.le_of_ble_eq_true rfl, Nat.le_of_ble_eq_true rfl⟩) (fun ce q9 H locs hP hD hS hce hcv hcl => ?_)
  have hP : va_P D vwCl [(qx, .inr (8, [.ref qr, .ref qb, .ref qA, .int cf, .int ccv]))] H := hP
  have hD : va_D A [(qx, .inr (8, [.ref qr, .ref qb, .ref qA, .int cf, .int ccv]))] := hD
  exact out_S (Q := fun _ => True) hht hlocks (hP.sub [0] rfl) (hD.sub [0] (by decide) rfl) hS hce hcv hcl (Nat.le_of_ble_eq_true rfl) (Nat.le_of_ble_eq_true rfl)

set_option maxHeartbeats 4000000 in
set_option maxRecDepth 100000 in
theorem x_weight2 (l : Launch) (D : va_G) (cJ cB cI cF : ClassId) (qx : Nat) (qb : Nat) (qA : Nat) (cf : Int32) (ccv : Int32) (qr : Nat) (n : Nat) (d : Nat) (rn : Nat) (lo : Int64) (hi : Int64) (sl : Int64) (sh : Int64) (qc : Nat) (qs : Nat) (k : Nat) (sz : Nat) (hl0 : l.stackTraces = false) (hk : k < 5) (hn : n = 0) : vx_Met l yCf_weight (Cond.code yCf_weight cCf_weight 2 (some .int) :: wsG) ({ frames := 7, cells := 1, slots := 6, locals := 102 }) (va_Pc [.ref qx, .int (nI k)] (cfPreX D (cfT cJ cB cI cF) [(qx, .inr (8, [.ref qr, .ref qb, .ref qA, .int cf, .int ccv])), (qr, .inr (5, [.int (nI n), .int (nI d), .int (nI rn), .long lo, .long hi, .long sl, .long sh, .ref qc, .ref qs]))] sz)) cfNo (cfX cfISE D [(qx, .inr (8, [.ref qr, .ref qb, .ref qA, .int cf, .int ccv])), (qr, .inr (5, [.int (nI n), .int (nI d), .int (nI rn), .long lo, .long hi, .long sl, .long sh, .ref qc, .ref qs]))] (va_A [(qx, .inr (8, [.ref qr, .ref qb, .ref qA, .int cf, .int ccv])), (qr, .inr (5, [.int (nI n), .int (nI d), .int (nI rn), .long lo, .long hi, .long sl, .long sh, .ref qc, .ref qs]))] sz)) 1 6 (va_A [(qx, .inr (8, [.ref qr, .ref qb, .ref qA, .int cf, .int ccv])), (qr, .inr (5, [.int (nI n), .int (nI d), .int (nI rn), .long lo, .long hi, .long sl, .long sh, .ref qc, .ref qs]))] sz) := by
  refine metx (cc := cCf_weight) (maxL := 2) (D := D) (by decide) (Nat.le_of_ble_eq_true rfl) ?_
  intro p e s m below meth c hx hb hml hown hts hlocks hin hWd hht A hA hsz hP hK hD hS hX ls hl
  have hown : s.vm.findClass "ColumnForms" = some m.cls := hown
  have hl : lv_has ls 2 [(0, .ref qx), (1, .int (nI k))] := hl
  have hP : va_P D vwCl [(qx, .inr (8, [.ref qr, .ref qb, .ref qA, .int cf, .int ccv])), (qr, .inr (5, [.int (nI n), .int (nI d), .int (nI rn), .long lo, .long hi, .long sl, .long sh, .ref qc, .ref qs]))] s.heap := hP
  refine lv_iload_n hx hb dCf_weight_0 rfl (lv_at hl 1 rfl) ?_
  refine kc_v (wc := []) (wr := [(qx, .inr (8, [.ref qr, .ref qb, .ref qA, .int cf, .int ccv])), (qr, .inr (5, [.int (nI n), .int (nI d), .int (nI rn), .long lo, .long hi, .long sl, .long sh, .ref qc, .ref qs]))]) hP hD hS hA [] [0, 1] rfl rfl (by decide) (by decide) (by decide) (fun hPc hDc => va_runS (As := [.int (nI k)]) (rest := []) ⟨hx, hb, hml, hown, hts⟩ (c_refF l D cJ cB cI cF k _ (hk)) (va_cwS 1 hts (wsG_k tw_317 (wsG_k tw_318 (wsG_k tw_1 (wsG_c tw_319)))) rfl rfl rfl (by decide +kernel) ⟨Nat.le_of_ble_eq_true rfl, Nat.le_of_ble_eq_true rfl⟩) ⟨cf_blind, cf_pre hPc hK hDc hWd⟩ rfl rfl hl.1 rfl (lv_room (Nat.le_of_ble_eq_true rfl)) dCf_weight_1 ⟨Nat.le_of_ble_eq_true rfl, Nat.le_of_ble_eq_true rfl⟩) (fun u H locs hw hP hD hS => ?_)
  have hP : va_P D vwCl [(qx, .inr (8, [.ref qr, .ref qb, .ref qA, .int cf, .int ccv])), (qr, .inr (5, [.int (nI n), .int (nI d), .int (nI rn), .long lo, .long hi, .long sl, .long sh, .ref qc, .ref qs]))] H := hP
  have hD : va_D A [(qx, .inr (8, [.ref qr, .ref qb, .ref qA, .int cf, .int ccv])), (qr, .inr (5, [.int (nI n), .int (nI d), .int (nI rn), .long lo, .long hi, .long sl, .long sh, .ref qc, .ref qs]))] := hD
  refine lv_aload_n hx hb dCf_weight_4 rfl (lv_at hl 0 rfl) ?_
  refine kcx (wc := [(qx, .inr (8, [.ref qr, .ref qb, .ref qA, .int cf, .int ccv])), (qr, .inr (5, [.int (nI n), .int (nI d), .int (nI rn), .long lo, .long hi, .long sl, .long sh, .ref qc, .ref qs]))]) (wr := []) hP hD hS hA [0, 1] [] rfl rfl (by decide) (by decide) (by decide) (fun hPc hDc hFc => vx_runV (As := []) (rest := []) ⟨hx, hb, hml, hown, hts⟩ (x_refE l D cJ cB cI cF qx qb qA cf ccv qr n d rn lo hi sl sh qc qs _ hl0 (hn)) (cwV 0 hts (wsG_k tw_321 (wsG_k tw_323 (wsG_k tp_w4 (wsG_k tw_1 (wsG_c tw_324))))) rfl rfl rfl (by decide +kernel) ⟨Nat.le_of_ble_eq_true rfl, Nat.le_of_ble_eq_true rfl⟩) ⟨cf_blindX, va_recv hK hPc (ci := 8) (q0 := 0) rfl rfl, cf_preX hPc hK hDc hWd hX hS hFc⟩ rfl rfl hl.1 rfl (lv_room (Nat.le_of_ble_eq_true rfl)) dCf_weight_5 ⟨Nat.le_of_ble_eq_true rfl, Nat.le_of_ble_eq_true rfl⟩) (fun ce q9 H locs hP hD hS hce hcv hcl => ?_)
  have hP : va_P D vwCl [(qx, .inr (8, [.ref qr, .ref qb, .ref qA, .int cf, .int ccv])), (qr, .inr (5, [.int (nI n), .int (nI d), .int (nI rn), .long lo, .long hi, .long sl, .long sh, .ref qc, .ref qs]))] H := hP
  have hD : va_D A [(qx, .inr (8, [.ref qr, .ref qb, .ref qA, .int cf, .int ccv])), (qr, .inr (5, [.int (nI n), .int (nI d), .int (nI rn), .long lo, .long hi, .long sl, .long sh, .ref qc, .ref qs]))] := hD
  exact out_S (Q := fun _ => True) hht hlocks (hP.sub [0, 1] rfl) (hD.sub [0, 1] (by decide) rfl) hS hce hcv hcl (Nat.le_of_ble_eq_true rfl) (Nat.le_of_ble_eq_true rfl)

set_option maxHeartbeats 4000000 in
set_option maxRecDepth 100000 in
theorem x_was1 (l : Launch) (D : va_G) (cJ cB cI cF : ClassId) (qr : Nat) (qx : Nat) (qb : Nat) (qA : Nat) (cf : Int32) (ccv : Int32) (fo : Int32) (sz : Nat) (hl0 : l.stackTraces = false) (hbad : ¬ ∃ j, j < 5 ∧ fo = nI j) : vx_Met l yCf_writeAs (Cond.code yCf_writeAs cCf_writeAs 2 (some .int) :: wsG) ({ frames := 7, cells := 1, slots := 6, locals := 102 }) (va_Pc [.ref qx, .int fo] (cfPreX D (cfT cJ cB cI cF) [(qx, .inr (8, [.ref qr, .ref qb, .ref qA, .int cf, .int ccv]))] sz)) cfNo (cfX cfIAE D [(qx, .inr (8, [.ref qr, .ref qb, .ref qA, .int cf, .int ccv]))] (va_A [(qx, .inr (8, [.ref qr, .ref qb, .ref qA, .int cf, .int ccv]))] sz)) 1 6 (va_A [(qx, .inr (8, [.ref qr, .ref qb, .ref qA, .int cf, .int ccv]))] sz) := by
  refine metx (cc := cCf_writeAs) (maxL := 2) (D := D) (by decide) (Nat.le_of_ble_eq_true rfl) ?_
  intro p e s m below meth c hx hb hml hown hts hlocks hin hWd hht A hA hsz hP hK hD hS hX ls hl
  have hown : s.vm.findClass "ColumnForms" = some m.cls := hown
  have hl : lv_has ls 2 [(0, .ref qx), (1, .int fo)] := hl
  have hP : va_P D vwCl [(qx, .inr (8, [.ref qr, .ref qb, .ref qA, .int cf, .int ccv]))] s.heap := hP
  refine lv_iload_n hx hb dCf_writeAs_0 rfl (lv_at hl 1 rfl) ?_
  refine kcx (wc := []) (wr := [(qx, .inr (8, [.ref qr, .ref qb, .ref qA, .int cf, .int ccv]))]) hP hD hS hA [] [0] rfl rfl (by decide) (by decide) (by decide) (fun hPc hDc hFc => vx_runS (As := [.int fo]) (rest := []) ⟨hx, hb, hml, hown, hts⟩ (x_refF l D cJ cB cI cF fo _ hl0 (hbad)) (va_cwS 1 hts (wsG_k tw_317 (wsG_k tw_318 (wsG_k tw_1 (wsG_c tw_319)))) rfl rfl rfl (by decide +kernel) ⟨Nat.le_of_ble_eq_true rfl, Nat.le_of_ble_eq_true rfl⟩) ⟨cf_blindX, cf_preX hPc hK hDc hWd hX hS hFc⟩ rfl rfl hl.1 rfl (lv_room (Nat.le_of_ble_eq_true rfl)) dCf_writeAs_1 ⟨Nat.le_of_ble_eq_true rfl, Nat.le_of_ble_eq_true rfl⟩) (fun ce q9 H locs hP hD hS hce hcv hcl => ?_)
  have hP : va_P D vwCl [(qx, .inr (8, [.ref qr, .ref qb, .ref qA, .int cf, .int ccv]))] H := hP
  have hD : va_D A [(qx, .inr (8, [.ref qr, .ref qb, .ref qA, .int cf, .int ccv]))] := hD
  exact out_S (Q := fun _ => True) hht hlocks (hP.sub [0] rfl) (hD.sub [0] (by decide) rfl) hS hce hcv hcl (Nat.le_of_ble_eq_true rfl) (Nat.le_of_ble_eq_true rfl)

set_option maxHeartbeats 4000000 in
set_option maxRecDepth 100000 in
theorem x_was2 (l : Launch) (D : va_G) (cJ cB cI cF : ClassId) (qx : Nat) (qb : Nat) (qA : Nat) (cf : Int32) (ccv : Int32) (qr : Nat) (n : Nat) (d : Nat) (rn : Nat) (lo : Int64) (hi : Int64) (sl : Int64) (sh : Int64) (qc : Nat) (qs : Nat) (k : Nat) (sz : Nat) (hl0 : l.stackTraces = false) (hk : k < 5) (hn : n = 0) : vx_Met l yCf_writeAs (Cond.code yCf_writeAs cCf_writeAs 2 (some .int) :: wsG) ({ frames := 7, cells := 1, slots := 6, locals := 102 }) (va_Pc [.ref qx, .int (nI k)] (cfPreX D (cfT cJ cB cI cF) [(qx, .inr (8, [.ref qr, .ref qb, .ref qA, .int cf, .int ccv])), (qr, .inr (5, [.int (nI n), .int (nI d), .int (nI rn), .long lo, .long hi, .long sl, .long sh, .ref qc, .ref qs]))] sz)) cfNo (cfX cfISE D [(qx, .inr (8, [.ref qr, .ref qb, .ref qA, .int cf, .int ccv])), (qr, .inr (5, [.int (nI n), .int (nI d), .int (nI rn), .long lo, .long hi, .long sl, .long sh, .ref qc, .ref qs]))] (va_A [(qx, .inr (8, [.ref qr, .ref qb, .ref qA, .int cf, .int ccv])), (qr, .inr (5, [.int (nI n), .int (nI d), .int (nI rn), .long lo, .long hi, .long sl, .long sh, .ref qc, .ref qs]))] sz)) 1 6 (va_A [(qx, .inr (8, [.ref qr, .ref qb, .ref qA, .int cf, .int ccv])), (qr, .inr (5, [.int (nI n), .int (nI d), .int (nI rn), .long lo, .long hi, .long sl, .long sh, .ref qc, .ref qs]))] sz) := by
  refine metx (cc := cCf_writeAs) (maxL := 2) (D := D) (by decide) (Nat.le_of_ble_eq_true rfl) ?_
  intro p e s m below meth c hx hb hml hown hts hlocks hin hWd hht A hA hsz hP hK hD hS hX ls hl
  have hown : s.vm.findClass "ColumnForms" = some m.cls := hown
  have hl : lv_has ls 2 [(0, .ref qx), (1, .int (nI k))] := hl
  have hP : va_P D vwCl [(qx, .inr (8, [.ref qr, .ref qb, .ref qA, .int cf, .int ccv])), (qr, .inr (5, [.int (nI n), .int (nI d), .int (nI rn), .long lo, .long hi, .long sl, .long sh, .ref qc, .ref qs]))] s.heap := hP
  refine lv_iload_n hx hb dCf_writeAs_0 rfl (lv_at hl 1 rfl) ?_
  refine kc_v (wc := []) (wr := [(qx, .inr (8, [.ref qr, .ref qb, .ref qA, .int cf, .int ccv])), (qr, .inr (5, [.int (nI n), .int (nI d), .int (nI rn), .long lo, .long hi, .long sl, .long sh, .ref qc, .ref qs]))]) hP hD hS hA [] [0, 1] rfl rfl (by decide) (by decide) (by decide) (fun hPc hDc => va_runS (As := [.int (nI k)]) (rest := []) ⟨hx, hb, hml, hown, hts⟩ (c_refF l D cJ cB cI cF k _ (hk)) (va_cwS 1 hts (wsG_k tw_317 (wsG_k tw_318 (wsG_k tw_1 (wsG_c tw_319)))) rfl rfl rfl (by decide +kernel) ⟨Nat.le_of_ble_eq_true rfl, Nat.le_of_ble_eq_true rfl⟩) ⟨cf_blind, cf_pre hPc hK hDc hWd⟩ rfl rfl hl.1 rfl (lv_room (Nat.le_of_ble_eq_true rfl)) dCf_writeAs_1 ⟨Nat.le_of_ble_eq_true rfl, Nat.le_of_ble_eq_true rfl⟩) (fun u H locs hw hP hD hS => ?_)
  have hP : va_P D vwCl [(qx, .inr (8, [.ref qr, .ref qb, .ref qA, .int cf, .int ccv])), (qr, .inr (5, [.int (nI n), .int (nI d), .int (nI rn), .long lo, .long hi, .long sl, .long sh, .ref qc, .ref qs]))] H := hP
  have hD : va_D A [(qx, .inr (8, [.ref qr, .ref qb, .ref qA, .int cf, .int ccv])), (qr, .inr (5, [.int (nI n), .int (nI d), .int (nI rn), .long lo, .long hi, .long sl, .long sh, .ref qc, .ref qs]))] := hD
  refine lv_aload_n hx hb dCf_writeAs_4 rfl (lv_at hl 0 rfl) ?_
  refine kcx (wc := [(qx, .inr (8, [.ref qr, .ref qb, .ref qA, .int cf, .int ccv])), (qr, .inr (5, [.int (nI n), .int (nI d), .int (nI rn), .long lo, .long hi, .long sl, .long sh, .ref qc, .ref qs]))]) (wr := []) hP hD hS hA [0, 1] [] rfl rfl (by decide) (by decide) (by decide) (fun hPc hDc hFc => vx_runV (As := []) (rest := []) ⟨hx, hb, hml, hown, hts⟩ (x_refE l D cJ cB cI cF qx qb qA cf ccv qr n d rn lo hi sl sh qc qs _ hl0 (hn)) (cwV 0 hts (wsG_k tw_321 (wsG_k tw_323 (wsG_k tp_w4 (wsG_k tw_1 (wsG_c tw_324))))) rfl rfl rfl (by decide +kernel) ⟨Nat.le_of_ble_eq_true rfl, Nat.le_of_ble_eq_true rfl⟩) ⟨cf_blindX, va_recv hK hPc (ci := 8) (q0 := 0) rfl rfl, cf_preX hPc hK hDc hWd hX hS hFc⟩ rfl rfl hl.1 rfl (lv_room (Nat.le_of_ble_eq_true rfl)) dCf_writeAs_5 ⟨Nat.le_of_ble_eq_true rfl, Nat.le_of_ble_eq_true rfl⟩) (fun ce q9 H locs hP hD hS hce hcv hcl => ?_)
  have hP : va_P D vwCl [(qx, .inr (8, [.ref qr, .ref qb, .ref qA, .int cf, .int ccv])), (qr, .inr (5, [.int (nI n), .int (nI d), .int (nI rn), .long lo, .long hi, .long sl, .long sh, .ref qc, .ref qs]))] H := hP
  have hD : va_D A [(qx, .inr (8, [.ref qr, .ref qb, .ref qA, .int cf, .int ccv])), (qr, .inr (5, [.int (nI n), .int (nI d), .int (nI rn), .long lo, .long hi, .long sl, .long sh, .ref qc, .ref qs]))] := hD
  exact out_S (Q := fun _ => True) hht hlocks (hP.sub [0, 1] rfl) (hD.sub [0, 1] (by decide) rfl) hS hce hcv hcl (Nat.le_of_ble_eq_true rfl) (Nat.le_of_ble_eq_true rfl)

set_option maxHeartbeats 4000000 in
set_option maxRecDepth 100000 in
theorem x_wri (l : Launch) (D : va_G) (cJ cB cI cF : ClassId) (qx : Nat) (qb : Nat) (qA : Nat) (cf : Int32) (ccv : Int32) (qr : Nat) (n : Nat) (d : Nat) (rn : Nat) (lo : Int64) (hi : Int64) (sl : Int64) (sh : Int64) (qc : Nat) (qs : Nat) (sz : Nat) (hl0 : l.stackTraces = false) (hn : n = 0) : vx_Met l yCf_write (Cond.code yCf_write cCf_write 1 (some .int) :: wsG) ({ frames := 7, cells := 1, slots := 6, locals := 102 }) (va_Pc [.ref qx] (cfPreX D (cfT cJ cB cI cF) [(qx, .inr (8, [.ref qr, .ref qb, .ref qA, .int cf, .int ccv])), (qr, .inr (5, [.int (nI n), .int (nI d), .int (nI rn), .long lo, .long hi, .long sl, .long sh, .ref qc, .ref qs]))] sz)) cfNo (cfX cfISE D [(qx, .inr (8, [.ref qr, .ref qb, .ref qA, .int cf, .int ccv])), (qr, .inr (5, [.int (nI n), .int (nI d), .int (nI rn), .long lo, .long hi, .long sl, .long sh, .ref qc, .ref qs]))] (va_A [(qx, .inr (8, [.ref qr, .ref qb, .ref qA, .int cf, .int ccv])), (qr, .inr (5, [.int (nI n), .int (nI d), .int (nI rn), .long lo, .long hi, .long sl, .long sh, .ref qc, .ref qs]))] sz)) 1 6 (va_A [(qx, .inr (8, [.ref qr, .ref qb, .ref qA, .int cf, .int ccv])), (qr, .inr (5, [.int (nI n), .int (nI d), .int (nI rn), .long lo, .long hi, .long sl, .long sh, .ref qc, .ref qs]))] sz) := by
  refine metx (cc := cCf_write) (maxL := 1) (D := D) (by decide) (Nat.le_of_ble_eq_true rfl) ?_
  intro p e s m below meth c hx hb hml hown hts hlocks hin hWd hht A hA hsz hP hK hD hS hX ls hl
  have hown : s.vm.findClass "ColumnForms" = some m.cls := hown
  have hl : lv_has ls 1 [(0, .ref qx)] := hl
  have hP : va_P D vwCl [(qx, .inr (8, [.ref qr, .ref qb, .ref qA, .int cf, .int ccv])), (qr, .inr (5, [.int (nI n), .int (nI d), .int (nI rn), .long lo, .long hi, .long sl, .long sh, .ref qc, .ref qs]))] s.heap := hP
  refine lv_aload_n hx hb dCf_write_0 rfl (lv_at hl 0 rfl) ?_
  refine kcx (wc := [(qx, .inr (8, [.ref qr, .ref qb, .ref qA, .int cf, .int ccv])), (qr, .inr (5, [.int (nI n), .int (nI d), .int (nI rn), .long lo, .long hi, .long sl, .long sh, .ref qc, .ref qs]))]) (wr := []) hP hD hS hA [0, 1] [] rfl rfl (by decide) (by decide) (by decide) (fun hPc hDc hFc => vx_runV (As := []) (rest := []) ⟨hx, hb, hml, hown, hts⟩ (x_refE l D cJ cB cI cF qx qb qA cf ccv qr n d rn lo hi sl sh qc qs _ hl0 (hn)) (cwV 0 hts (wsG_k tw_321 (wsG_k tw_323 (wsG_k tp_w4 (wsG_k tw_1 (wsG_c tw_324))))) rfl rfl rfl (by decide +kernel) ⟨Nat.le_of_ble_eq_true rfl, Nat.le_of_ble_eq_true rfl⟩) ⟨cf_blindX, va_recv hK hPc (ci := 8) (q0 := 0) rfl rfl, cf_preX hPc hK hDc hWd hX hS hFc⟩ rfl rfl hl.1 rfl (lv_room (Nat.le_of_ble_eq_true rfl)) dCf_write_1 ⟨Nat.le_of_ble_eq_true rfl, Nat.le_of_ble_eq_true rfl⟩) (fun ce q9 H locs hP hD hS hce hcv hcl => ?_)
  have hP : va_P D vwCl [(qx, .inr (8, [.ref qr, .ref qb, .ref qA, .int cf, .int ccv])), (qr, .inr (5, [.int (nI n), .int (nI d), .int (nI rn), .long lo, .long hi, .long sl, .long sh, .ref qc, .ref qs]))] H := hP
  have hD : va_D A [(qx, .inr (8, [.ref qr, .ref qb, .ref qA, .int cf, .int ccv])), (qr, .inr (5, [.int (nI n), .int (nI d), .int (nI rn), .long lo, .long hi, .long sl, .long sh, .ref qc, .ref qs]))] := hD
  exact out_S (Q := fun _ => True) hht hlocks (hP.sub [0, 1] rfl) (hD.sub [0, 1] (by decide) rfl) hS hce hcv hcl (Nat.le_of_ble_eq_true rfl) (Nat.le_of_ble_eq_true rfl)

set_option maxHeartbeats 4000000 in
set_option maxRecDepth 100000 in
theorem x_byteAt (l : Launch) (D : va_G) (cJ cB cI cF : ClassId) (qr : Nat) (qx : Nat) (qb : Nat) (qA : Nat) (cf : Int32) (ccv : Int32) (qo : Nat) (bc : Nat) (iv : Int32) (sz : Nat) (hl0 : l.stackTraces = false) (hbm : bc ≤ 81936) (hbad : ¬ ∃ j, j < (bc + 7) / 8 ∧ iv = nI j) : vx_Met l yCf_byteAt (Cond.code yCf_byteAt cCf_byteAt 2 (some .int) :: wsG) ({ frames := 6, cells := 1, slots := 6, locals := 82 }) (va_Pc [.ref qx, .int iv] (cfPreX D (cfT cJ cB cI cF) [(qx, .inr (8, [.ref qr, .ref qb, .ref qA, .int cf, .int ccv])), (qb, .inr (0, [.ref qo, .int (nI bc)]))] sz)) cfNo (cfX cfIAE D [(qx, .inr (8, [.ref qr, .ref qb, .ref qA, .int cf, .int ccv])), (qb, .inr (0, [.ref qo, .int (nI bc)]))] (va_A [(qx, .inr (8, [.ref qr, .ref qb, .ref qA, .int cf, .int ccv])), (qb, .inr (0, [.ref qo, .int (nI bc)]))] sz)) 1 6 (va_A [(qx, .inr (8, [.ref qr, .ref qb, .ref qA, .int cf, .int ccv])), (qb, .inr (0, [.ref qo, .int (nI bc)]))] sz) := by
  refine metx (cc := cCf_byteAt) (maxL := 2) (D := D) (by decide) (Nat.le_of_ble_eq_true rfl) ?_
  intro p e s m below meth c hx hb hml hown hts hlocks hin hWd hht A hA hsz hP hK hD hS hX ls hl
  have hown : s.vm.findClass "ColumnForms" = some m.cls := hown
  have hl : lv_has ls 2 [(0, .ref qx), (1, .int iv)] := hl
  have hP : va_P D vwCl [(qx, .inr (8, [.ref qr, .ref qb, .ref qA, .int cf, .int ccv])), (qb, .inr (0, [.ref qo, .int (nI bc)]))] s.heap := hP
  refine lv_iload_n hx hb dCf_byteAt_0 rfl (lv_at hl 1 rfl) ?_
  refine lv_if_lt (tgt := 15) hx hb dCf_byteAt_1 (by decide) (fun c1 => ?_) (fun c1 => ?_)
  · exact thr_S (Q := fun _ => True) hx hb hl0 hown hts hWd hX (by decide +kernel) tw_293 tw_17 at_IAE 5 rfl (hP.sub [0, 1] rfl) (hD.sub [0, 1] (by decide) rfl) hS (hl.1.trans hml.symm) dCf_byteAt_15 dCf_byteAt_18 dCf_byteAt_19 dCf_byteAt_21 dCf_byteAt_24 hht (Nat.le_of_ble_eq_true rfl) (Nat.le_of_ble_eq_true rfl) (Nat.le_of_ble_eq_true rfl) (Nat.le_of_ble_eq_true rfl) hlocks (Nat.le_of_ble_eq_true rfl) (Nat.le_of_ble_eq_true rfl)
  · refine lv_iload_n hx hb dCf_byteAt_4 rfl (lv_at hl 1 rfl) ?_
    refine lv_aload_n hx hb dCf_byteAt_5 rfl (lv_at hl 0 rfl) ?_
    refine va_get (D := D) (ci := 8) (v := .ref qb) (C := "ColumnForms") (T := TCf) (N := 5) hx hb hts inCf hown hK hP 0 rfl rfl 1 (by decide) (hts _ tw_136) (fun _ h9 => h9) rfl dCf_byteAt_6 ?_
    refine kc_i (wc := [(qb, .inr (0, [.ref qo, .int (nI bc)]))]) (wr := [(qx, .inr (8, [.ref qr, .ref qb, .ref qA, .int cf, .int ccv]))]) hP hD hS hA [1] [0] rfl rfl (by decide) (by decide) (by decide) (fun hPc hDc => va_runV (As := []) (rest := [.int iv]) ⟨hx, hb, hml, hown, hts⟩ (c_blen l D cJ cB cI cF qb qo bc _ (hbm)) (cwV 0 hts (wsG_k tw_167 (wsG_k tw_168 (wsG_k tw_169 (wsG_k tw_3 (wsG_c tw_170))))) rfl rfl rfl (by decide +kernel) ⟨Nat.le_of_ble_eq_true rfl, Nat.le_of_ble_eq_true rfl⟩) ⟨cf_blind, va_recv hK hPc (ci := 0) (q0 := 0) rfl rfl, cf_pre hPc hK hDc hWd⟩ rfl rfl hl.1 rfl (lv_room (Nat.le_of_ble_eq_true rfl)) dCf_byteAt_9 ⟨Nat.le_of_ble_eq_true rfl, Nat.le_of_ble_eq_true rfl⟩) (fun r u H locs hw hP hD hS => ?_)
    obtain ⟨rfl, -⟩ := hw
    have hP : va_P D vwCl [(qx, .inr (8, [.ref qr, .ref qb, .ref qA, .int cf, .int ccv])), (qb, .inr (0, [.ref qo, .int (nI bc)]))] H := hP
    have hD : va_D A [(qx, .inr (8, [.ref qr, .ref qb, .ref qA, .int cf, .int ccv])), (qb, .inr (0, [.ref qo, .int (nI bc)]))] := hD
    refine lv_icmp_lt (tgt := 25) hx hb dCf_byteAt_12 (by decide) (fun c12 => ?_) (fun c12 => ?_)
    · exact absurd (i_lt c1 c12 (by omega)) hbad
    · exact thr_S (Q := fun _ => True) hx hb hl0 hown hts hWd hX (by decide +kernel) tw_293 tw_17 at_IAE 5 rfl (hP.sub [0, 1] rfl) (hD.sub [0, 1] (by decide) rfl) hS (hl.1.trans hml.symm) dCf_byteAt_15 dCf_byteAt_18 dCf_byteAt_19 dCf_byteAt_21 dCf_byteAt_24 hht (Nat.le_of_ble_eq_true rfl) (Nat.le_of_ble_eq_true rfl) (Nat.le_of_ble_eq_true rfl) (Nat.le_of_ble_eq_true rfl) hlocks (Nat.le_of_ble_eq_true rfl) (Nat.le_of_ble_eq_true rfl)

set_option maxHeartbeats 4000000 in
set_option maxRecDepth 100000 in
theorem x_cell (l : Launch) (D : va_G) (cJ cB cI cF : ClassId) (qr : Nat) (qx : Nat) (qb : Nat) (qA : Nat) (cf : Int32) (cc : Nat) (iv : Int32) (sz : Nat) (hl0 : l.stackTraces = false) (hcc : cc ≤ 1024) (hbad : cf = -1 ∨ ¬ ∃ j, j < cc ∧ iv = nI j) : vx_Met l yCf_cell (Cond.code yCf_cell cCf_cell 2 (some .long) :: wsG) ({ frames := 6, cells := 1, slots := 6, locals := 82 }) (va_Pc [.ref qx, .int iv] (cfPreX D (cfT cJ cB cI cF) [(qx, .inr (8, [.ref qr, .ref qb, .ref qA, .int cf, .int (nI cc)]))] sz)) cfNo (cfX cfIAE D [(qx, .inr (8, [.ref qr, .ref qb, .ref qA, .int cf, .int (nI cc)]))] (va_A [(qx, .inr (8, [.ref qr, .ref qb, .ref qA, .int cf, .int (nI cc)]))] sz)) 1 6 (va_A [(qx, .inr (8, [.ref qr, .ref qb, .ref qA, .int cf, .int (nI cc)]))] sz) := by
  refine metx (cc := cCf_cell) (maxL := 2) (D := D) (by decide) (Nat.le_of_ble_eq_true rfl) ?_
  intro p e s m below meth c hx hb hml hown hts hlocks hin hWd hht A hA hsz hP hK hD hS hX ls hl
  have hown : s.vm.findClass "ColumnForms" = some m.cls := hown
  have hl : lv_has ls 2 [(0, .ref qx), (1, .int iv)] := hl
  have hP : va_P D vwCl [(qx, .inr (8, [.ref qr, .ref qb, .ref qA, .int cf, .int (nI cc)]))] s.heap := hP
  refine lv_aload_n hx hb dCf_cell_0 rfl (lv_at hl 0 rfl) ?_
  refine va_get (D := D) (ci := 8) (v := .int cf) (C := "ColumnForms") (T := TCf) (N := 5) hx hb hts inCf hown hK hP 0 rfl rfl 3 (by decide) (hts _ tw_138) (fun _ h9 => h9) rfl dCf_cell_1 ?_
  refine lv_iconst (v := (-1)) hx hb dCf_cell_4 (by decide) ?_
  refine lv_icmp_eq (tgt := 20) hx hb dCf_cell_5 (by decide) (fun c5 => ?_) (fun c5 => ?_)
  · exact thr_S (Q := fun _ => True) hx hb hl0 hown hts hWd hX (by decide +kernel) tw_293 tw_17 at_IAE 6 rfl (hP.sub [0] rfl) (hD.sub [0] (by decide) rfl) hS (hl.1.trans hml.symm) dCf_cell_20 dCf_cell_23 dCf_cell_24 dCf_cell_26 dCf_cell_29 hht (Nat.le_of_ble_eq_true rfl) (Nat.le_of_ble_eq_true rfl) (Nat.le_of_ble_eq_true rfl) (Nat.le_of_ble_eq_true rfl) hlocks (Nat.le_of_ble_eq_true rfl) (Nat.le_of_ble_eq_true rfl)
  · refine lv_iload_n hx hb dCf_cell_8 rfl (lv_at hl 1 rfl) ?_
    refine lv_if_lt (tgt := 20) hx hb dCf_cell_9 (by decide) (fun c9 => ?_) (fun c9 => ?_)
    · exact thr_S (Q := fun _ => True) hx hb hl0 hown hts hWd hX (by decide +kernel) tw_293 tw_17 at_IAE 6 rfl (hP.sub [0] rfl) (hD.sub [0] (by decide) rfl) hS (hl.1.trans hml.symm) dCf_cell_20 dCf_cell_23 dCf_cell_24 dCf_cell_26 dCf_cell_29 hht (Nat.le_of_ble_eq_true rfl) (Nat.le_of_ble_eq_true rfl) (Nat.le_of_ble_eq_true rfl) (Nat.le_of_ble_eq_true rfl) hlocks (Nat.le_of_ble_eq_true rfl) (Nat.le_of_ble_eq_true rfl)
    · refine lv_iload_n hx hb dCf_cell_12 rfl (lv_at hl 1 rfl) ?_
      refine lv_aload_n hx hb dCf_cell_13 rfl (lv_at hl 0 rfl) ?_
      refine va_get (D := D) (ci := 8) (v := .int (nI cc)) (C := "ColumnForms") (T := TCf) (N := 5) hx hb hts inCf hown hK hP 0 rfl rfl 4 (by decide) (hts _ tw_139) (fun _ h9 => h9) rfl dCf_cell_14 ?_
      refine lv_icmp_lt (tgt := 30) hx hb dCf_cell_17 (by decide) (fun c17 => ?_) (fun c17 => ?_)
      · exact hbad.elim (fun q => absurd q c5) (fun q => absurd (i_lt c9 c17 (by omega)) q)
      · exact thr_S (Q := fun _ => True) hx hb hl0 hown hts hWd hX (by decide +kernel) tw_293 tw_17 at_IAE 6 rfl (hP.sub [0] rfl) (hD.sub [0] (by decide) rfl) hS (hl.1.trans hml.symm) dCf_cell_20 dCf_cell_23 dCf_cell_24 dCf_cell_26 dCf_cell_29 hht (Nat.le_of_ble_eq_true rfl) (Nat.le_of_ble_eq_true rfl) (Nat.le_of_ble_eq_true rfl) (Nat.le_of_ble_eq_true rfl) hlocks (Nat.le_of_ble_eq_true rfl) (Nat.le_of_ble_eq_true rfl)

set_option maxHeartbeats 4000000 in
set_option maxRecDepth 100000 in
theorem x_count1 (l : Launch) (D : va_G) (cJ cB cI cF : ClassId) (qr : Nat) (qx : Nat) (qb : Nat) (qA : Nat) (cf : Int32) (ccv : Int32) (kv : Int32) (xv : Int64) (sz : Nat) (hl0 : l.stackTraces = false) (hbad : ¬ ∃ j, j < 4 ∧ kv = nI j) : vx_Met l yCf_count (Cond.code yCf_count cCf_count 5 (some .int) :: wsG) ({ frames := 6, cells := 1, slots := 6, locals := 82 }) (va_Pc [.ref qx, .int kv, .long xv] (cfPreX D (cfT cJ cB cI cF) [(qx, .inr (8, [.ref qr, .ref qb, .ref qA, .int cf, .int ccv]))] sz)) cfNo (cfX cfIAE D [(qx, .inr (8, [.ref qr, .ref qb, .ref qA, .int cf, .int ccv]))] (va_A [(qx, .inr (8, [.ref qr, .ref qb, .ref qA, .int cf, .int ccv]))] sz)) 1 6 (va_A [(qx, .inr (8, [.ref qr, .ref qb, .ref qA, .int cf, .int ccv]))] sz) := by
  refine metx (cc := cCf_count) (maxL := 5) (D := D) (by decide) (Nat.le_of_ble_eq_true rfl) ?_
  intro p e s m below meth c hx hb hml hown hts hlocks hin hWd hht A hA hsz hP hK hD hS hX ls hl
  have hown : s.vm.findClass "ColumnForms" = some m.cls := hown
  have hl : lv_has ls 5 [(0, .ref qx), (1, .int kv), (2, .long xv)] := hl
  have hP : va_P D vwCl [(qx, .inr (8, [.ref qr, .ref qb, .ref qA, .int cf, .int ccv]))] s.heap := hP
  refine lv_iload_n hx hb dCf_count_0 rfl (lv_at hl 1 rfl) ?_
  refine lv_if_lt (tgt := 9) hx hb dCf_count_1 (by decide) (fun c1 => ?_) (fun c1 => ?_)
  · exact thr_S (Q := fun _ => True) hx hb hl0 hown hts hWd hX (by decide +kernel) tw_293 tw_17 at_IAE 7 rfl (hP.sub [0] rfl) (hD.sub [0] (by decide) rfl) hS (hl.1.trans hml.symm) dCf_count_9 dCf_count_12 dCf_count_13 dCf_count_15 dCf_count_18 hht (Nat.le_of_ble_eq_true rfl) (Nat.le_of_ble_eq_true rfl) (Nat.le_of_ble_eq_true rfl) (Nat.le_of_ble_eq_true rfl) hlocks (Nat.le_of_ble_eq_true rfl) (Nat.le_of_ble_eq_true rfl)
  · refine lv_iload_n hx hb dCf_count_4 rfl (lv_at hl 1 rfl) ?_
    refine lv_iconst (v := nI 4) hx hb dCf_count_5 (by decide) ?_
    refine lv_icmp_lt (tgt := 19) hx hb dCf_count_6 (by decide) (fun c6 => ?_) (fun c6 => ?_)
    · exact absurd (i_lt c1 c6 (by omega)) hbad
    · exact thr_S (Q := fun _ => True) hx hb hl0 hown hts hWd hX (by decide +kernel) tw_293 tw_17 at_IAE 7 rfl (hP.sub [0] rfl) (hD.sub [0] (by decide) rfl) hS (hl.1.trans hml.symm) dCf_count_9 dCf_count_12 dCf_count_13 dCf_count_15 dCf_count_18 hht (Nat.le_of_ble_eq_true rfl) (Nat.le_of_ble_eq_true rfl) (Nat.le_of_ble_eq_true rfl) (Nat.le_of_ble_eq_true rfl) hlocks (Nat.le_of_ble_eq_true rfl) (Nat.le_of_ble_eq_true rfl)

set_option maxHeartbeats 4000000 in
set_option maxRecDepth 100000 in
theorem x_count2 (l : Launch) (D : va_G) (cJ cB cI cF : ClassId) (qr : Nat) (qx : Nat) (qb : Nat) (qA : Nat) (cf : Int32) (ccv : Int32) (kd : Nat) (xv : Int64) (sz : Nat) (hl0 : l.stackTraces = false) (hkd : kd < 4) (hcf : cf = -1) : vx_Met l yCf_count (Cond.code yCf_count cCf_count 5 (some .int) :: wsG) ({ frames := 7, cells := 1, slots := 6, locals := 102 }) (va_Pc [.ref qx, .int (nI kd), .long xv] (cfPreX D (cfT cJ cB cI cF) [(qx, .inr (8, [.ref qr, .ref qb, .ref qA, .int cf, .int ccv]))] sz)) cfNo (cfX cfISE D [(qx, .inr (8, [.ref qr, .ref qb, .ref qA, .int cf, .int ccv]))] (va_A [(qx, .inr (8, [.ref qr, .ref qb, .ref qA, .int cf, .int ccv]))] sz)) 1 6 (va_A [(qx, .inr (8, [.ref qr, .ref qb, .ref qA, .int cf, .int ccv]))] sz) := by
  refine metx (cc := cCf_count) (maxL := 5) (D := D) (by decide) (Nat.le_of_ble_eq_true rfl) ?_
  intro p e s m below meth c hx hb hml hown hts hlocks hin hWd hht A hA hsz hP hK hD hS hX ls hl
  have hown : s.vm.findClass "ColumnForms" = some m.cls := hown
  have hl : lv_has ls 5 [(0, .ref qx), (1, .int (nI kd)), (2, .long xv)] := hl
  have hP : va_P D vwCl [(qx, .inr (8, [.ref qr, .ref qb, .ref qA, .int cf, .int ccv]))] s.heap := hP
  refine lv_iload_n hx hb dCf_count_0 rfl (lv_at hl 1 rfl) ?_
  refine lv_if_lt (tgt := 9) hx hb dCf_count_1 (by decide) (fun c1 => ?_) (fun c1 => ?_)
  · have c1 : kd < 0 := (nI_ltI (b := 0) (by omega) (by omega)).mp c1
    exact absurd c1 (by omega)
  · have c1 : ¬ kd < 0 := fun h => c1 ((nI_ltI (b := 0) (by omega) (by omega)).mpr h)
    refine lv_iload_n hx hb dCf_count_4 rfl (lv_at hl 1 rfl) ?_
    refine lv_iconst (v := nI 4) hx hb dCf_count_5 (by decide) ?_
    refine lv_icmp_lt (tgt := 19) hx hb dCf_count_6 (by decide) (fun c6 => ?_) (fun c6 => ?_)
    · have c6 : kd < 4 := (nI_ltI (by omega) (by omega)).mp c6
      refine lv_aload_n hx hb dCf_count_19 rfl (lv_at hl 0 rfl) ?_
      refine kcx (wc := [(qx, .inr (8, [.ref qr, .ref qb, .ref qA, .int cf, .int ccv]))]) (wr := []) hP hD hS hA [0] [] rfl rfl (by decide) (by decide) (by decide) (fun hPc hDc hFc => vx_runV (As := []) (rest := []) ⟨hx, hb, hml, hown, hts⟩ (x_refN l D cJ cB cI cF qr qx qb qA cf ccv _ hl0 (hcf)) (cwV 0 hts (wsG_k tw_508 (wsG_k tw_510 (wsG_k tp_w8 (wsG_k tw_1 (wsG_c tw_511))))) rfl rfl rfl (by decide +kernel) ⟨Nat.le_of_ble_eq_true rfl, Nat.le_of_ble_eq_true rfl⟩) ⟨cf_blindX, va_recv hK hPc (ci := 8) (q0 := 0) rfl rfl, cf_preX hPc hK hDc hWd hX hS hFc⟩ rfl rfl hl.1 rfl (lv_room (Nat.le_of_ble_eq_true rfl)) dCf_count_20 ⟨Nat.le_of_ble_eq_true rfl, Nat.le_of_ble_eq_true rfl⟩) (fun ce q9 H locs hP hD hS hce hcv hcl => ?_)
      have hP : va_P D vwCl [(qx, .inr (8, [.ref qr, .ref qb, .ref qA, .int cf, .int ccv]))] H := hP
      have hD : va_D A [(qx, .inr (8, [.ref qr, .ref qb, .ref qA, .int cf, .int ccv]))] := hD
      exact out_S (Q := fun _ => True) hht hlocks (hP.sub [0] rfl) (hD.sub [0] (by decide) rfl) hS hce hcv hcl (Nat.le_of_ble_eq_true rfl) (Nat.le_of_ble_eq_true rfl)
    · have c6 : ¬ kd < 4 := fun h => c6 ((nI_ltI (by omega) (by omega)).mpr h)
      exact absurd c6 (by omega)

set_option maxHeartbeats 4000000 in
set_option maxRecDepth 100000 in
theorem x_sum (l : Launch) (D : va_G) (cJ cB cI cF : ClassId) (qr : Nat) (qx : Nat) (qb : Nat) (qA : Nat) (cf : Int32) (ccv : Int32) (low : Int64) (high : Int64) (sz : Nat) (hl0 : l.stackTraces = false) (hcf : cf = -1) : vx_Met l yCf_sum (Cond.code yCf_sum cCf_sum 6 (some .long) :: wsG) ({ frames := 7, cells := 1, slots := 6, locals := 102 }) (va_Pc [.ref qx, .long low, .long high] (cfPreX D (cfT cJ cB cI cF) [(qx, .inr (8, [.ref qr, .ref qb, .ref qA, .int cf, .int ccv]))] sz)) cfNo (cfX cfISE D [(qx, .inr (8, [.ref qr, .ref qb, .ref qA, .int cf, .int ccv]))] (va_A [(qx, .inr (8, [.ref qr, .ref qb, .ref qA, .int cf, .int ccv]))] sz)) 1 6 (va_A [(qx, .inr (8, [.ref qr, .ref qb, .ref qA, .int cf, .int ccv]))] sz) := by
  refine metx (cc := cCf_sum) (maxL := 6) (D := D) (by decide) (Nat.le_of_ble_eq_true rfl) ?_
  intro p e s m below meth c hx hb hml hown hts hlocks hin hWd hht A hA hsz hP hK hD hS hX ls hl
  have hown : s.vm.findClass "ColumnForms" = some m.cls := hown
  have hl : lv_has ls 6 [(0, .ref qx), (1, .long low), (3, .long high)] := hl
  have hP : va_P D vwCl [(qx, .inr (8, [.ref qr, .ref qb, .ref qA, .int cf, .int ccv]))] s.heap := hP
  refine lv_aload_n hx hb dCf_sum_0 rfl (lv_at hl 0 rfl) ?_
  refine kcx (wc := [(qx, .inr (8, [.ref qr, .ref qb, .ref qA, .int cf, .int ccv]))]) (wr := []) hP hD hS hA [0] [] rfl rfl (by decide) (by decide) (by decide) (fun hPc hDc hFc => vx_runV (As := []) (rest := []) ⟨hx, hb, hml, hown, hts⟩ (x_refN l D cJ cB cI cF qr qx qb qA cf ccv _ hl0 (hcf)) (cwV 0 hts (wsG_k tw_508 (wsG_k tw_510 (wsG_k tp_w8 (wsG_k tw_1 (wsG_c tw_511))))) rfl rfl rfl (by decide +kernel) ⟨Nat.le_of_ble_eq_true rfl, Nat.le_of_ble_eq_true rfl⟩) ⟨cf_blindX, va_recv hK hPc (ci := 8) (q0 := 0) rfl rfl, cf_preX hPc hK hDc hWd hX hS hFc⟩ rfl rfl hl.1 rfl (lv_room (Nat.le_of_ble_eq_true rfl)) dCf_sum_1 ⟨Nat.le_of_ble_eq_true rfl, Nat.le_of_ble_eq_true rfl⟩) (fun ce q9 H locs hP hD hS hce hcv hcl => ?_)
  have hP : va_P D vwCl [(qx, .inr (8, [.ref qr, .ref qb, .ref qA, .int cf, .int ccv]))] H := hP
  have hD : va_D A [(qx, .inr (8, [.ref qr, .ref qb, .ref qA, .int cf, .int ccv]))] := hD
  exact out_S (Q := fun _ => True) hht hlocks (hP.sub [0] rfl) (hD.sub [0] (by decide) rfl) hS hce hcv hcl (Nat.le_of_ble_eq_true rfl) (Nat.le_of_ble_eq_true rfl)

