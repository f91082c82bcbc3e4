set_option maxHeartbeats 4000000 in
set_option maxRecDepth 100000 in
theorem m_wRuns (l : Launch) (D : va_G) (cJ cB cI cF : ClassId) (qm : Nat) (cd : Int32) (n : Nat) (qmr : Nat) (fm : Int32) (cm : Nat) (qmc : Nat) (qmb : Nat) (dm : Nat) (qml : Nat) (xs : Nat → Int64) (mm : Nat → Int32) (sz : Nat) (hn0 : 0 < n) (hn : n ≤ 1024) : Met l yMo_writeRuns (Cond.code yMo_writeRuns cMo_writeRuns 3 none :: wsG) ({ frames := 2, cells := 0, slots := 0, locals := 45 }) (va_Pc [.ref qm] (cfPre D (cfT cJ cB cI cF) [(qm, .inr (9, [.int cd, .int (nI n), .ref qmr, .int fm, .int (nI cm), .ref qmc, .int (nI 0), .ref qmb, .int (nI 0), .int (nI dm), .ref qml])), (qmr, .inl (cJ, 1024, .inr (.inl xs))), (qmb, .inl (cI, 10400, .inl mm))] sz)) (va_Qv (fun (u : Nat × Nat × Nat × (Nat → Int32) × (Nat → Bool)) => (u.2.1 = (u.1 + 7) / 8) ∧ (u.2.2.1 = u.1 % 8) ∧ (mB u.2.2.2.1 u.1 u.2.2.2.2) ∧ (lR xs n u.1 u.2.2.2.2) ∧ (u.1 ≤ 81936) ∧ True) (fun u t => cfPost D ((fun (u : Nat × Nat × Nat × (Nat → Int32) × (Nat → Bool)) => [(qm, .inr (9, [.int cd, .int (nI n), .ref qmr, .int fm, .int (nI cm), .ref qmc, .int (nI u.2.1), .ref qmb, .int (nI u.2.2.1), .int (nI dm), .ref qml])), (qmr, .inl (cJ, 1024, .inr (.inl xs))), (qmb, .inl (cI, 10400, .inl u.2.2.2.1))]) u) (va_A [(qm, .inr (9, [.int cd, .int (nI n), .ref qmr, .int fm, .int (nI cm), .ref qmc, .int (nI 0), .ref qmb, .int (nI 0), .int (nI dm), .ref qml])), (qmr, .inl (cJ, 1024, .inr (.inl xs))), (qmb, .inl (cI, 10400, .inl mm))] sz) t) (va_A [(qm, .inr (9, [.int cd, .int (nI n), .ref qmr, .int fm, .int (nI cm), .ref qmc, .int (nI 0), .ref qmb, .int (nI 0), .int (nI dm), .ref qml])), (qmr, .inl (cJ, 1024, .inr (.inl xs))), (qmb, .inl (cI, 10400, .inl mm))] sz)) 0 0 (va_A [(qm, .inr (9, [.int cd, .int (nI n), .ref qmr, .int fm, .int (nI cm), .ref qmc, .int (nI 0), .ref qmb, .int (nI 0), .int (nI dm), .ref qml])), (qmr, .inl (cJ, 1024, .inr (.inl xs))), (qmb, .inl (cI, 10400, .inl mm))] sz) := by
  refine met_v (cc := cMo_writeRuns) (maxL := 3) (S := Nat × Nat × Nat × (Nat → Int32) × (Nat → Bool)) (D := D) (wO := fun (u : Nat × Nat × Nat × (Nat → Int32) × (Nat → Bool)) => [(qm, .inr (9, [.int cd, .int (nI n), .ref qmr, .int fm, .int (nI cm), .ref qmc, .int (nI u.2.1), .ref qmb, .int (nI u.2.2.1), .int (nI dm), .ref qml])), (qmr, .inl (cJ, 1024, .inr (.inl xs))), (qmb, .inl (cI, 10400, .inl u.2.2.2.1))]) (by decide) (Nat.le_of_ble_eq_true rfl) ?_
  intro p e s m below meth c hx hb hml hown hts hlocks hin hWd A hA hsz hP hK hD hS Q hret ls hl
  have hown : s.vm.findClass "ColumnFormsModel" = some m.cls := hown
  have hl : lv_has ls 3 [(0, .ref qm)] := hl
  have hP : va_P D vwCl [(qm, .inr (9, [.int cd, .int (nI n), .ref qmr, .int fm, .int (nI cm), .ref qmc, .int (nI 0), .ref qmb, .int (nI 0), .int (nI dm), .ref qml])), (qmr, .inl (cJ, 1024, .inr (.inl xs))), (qmb, .inl (cI, 10400, .inl mm))] s.heap := hP
  have hr1 := rRn_le (xs := xs) n
  refine lv_aload_n hx hb dMo_writeRuns_0 rfl (lv_at hl 0 rfl) ?_
  refine lv_aload_n hx hb dMo_writeRuns_1 rfl (lv_at hl 0 rfl) ?_
  refine kc_i (wc := [(qm, .inr (9, [.int cd, .int (nI n), .ref qmr, .int fm, .int (nI cm), .ref qmc, .int (nI 0), .ref qmb, .int (nI 0), .int (nI dm), .ref qml])), (qmr, .inl (cJ, 1024, .inr (.inl xs)))]) (wr := [(qmb, .inl (cI, 10400, .inl mm))]) hP hD hS hA [0, 1] [2] rfl rfl (by decide) (by decide) (by decide) (fun hPc hDc => va_runV (As := []) (rest := [.ref qm]) ⟨hx, hb, hml, hown, hts⟩ (m_runs l D cJ cB cI cF qm cd n qmr fm cm qmc 0 qmb 0 dm qml xs _ (hn0) (hn)) (cwV 0 hts (wsG_k tw_669 (wsG_k tw_671 (wsG_k tp_w16 (wsG_k tw_10 (wsG_c tw_672))))) rfl rfl rfl (by decide +kernel) ⟨Nat.le_of_ble_eq_true rfl, Nat.le_of_ble_eq_true rfl⟩) ⟨cf_blind, va_recv hK hPc (ci := 9) (q0 := 0) rfl rfl, cf_pre hPc hK hDc hWd⟩ rfl rfl hl.1 rfl (lv_room (Nat.le_of_ble_eq_true rfl)) dMo_writeRuns_2 ⟨Nat.le_of_ble_eq_true rfl, Nat.le_of_ble_eq_true rfl⟩) (fun r u H locs hw hP hD hS => ?_)
  obtain ⟨rfl, -⟩ := hw
  have hP : va_P D vwCl [(qmb, .inl (cI, 10400, .inl mm)), (qm, .inr (9, [.int cd, .int (nI n), .ref qmr, .int fm, .int (nI cm), .ref qmc, .int (nI 0), .ref qmb, .int (nI 0), .int (nI dm), .ref qml])), (qmr, .inl (cJ, 1024, .inr (.inl xs)))] H := hP
  have hD : va_D A [(qmb, .inl (cI, 10400, .inl mm)), (qm, .inr (9, [.int cd, .int (nI n), .ref qmr, .int fm, .int (nI cm), .ref qmc, .int (nI 0), .ref qmb, .int (nI 0), .int (nI dm), .ref qml])), (qmr, .inl (cJ, 1024, .inr (.inl xs)))] := hD
  refine lv_i2l hx hb dMo_writeRuns_5 rfl ?_
  refine tp_l (show ((nI (rRn xs n)).toInt64) = (lN (rRn xs n)) from nI_l (by omega)) ?_
  refine lv_bipush (v := nI 16) hx hb dMo_writeRuns_6 (by decide) ?_
  refine kc_v (wc := [(qm, .inr (9, [.int cd, .int (nI n), .ref qmr, .int fm, .int (nI cm), .ref qmc, .int (nI 0), .ref qmb, .int (nI 0), .int (nI dm), .ref qml])), (qmb, .inl (cI, 10400, .inl mm))]) (wr := [(qmr, .inl (cJ, 1024, .inr (.inl xs)))]) hP hD hS hA [1, 0] [2] rfl rfl (by decide) (by decide) (by decide) (fun hPc hDc => va_runV (As := [.long (lN (rRn xs n)), .int (nI 16)]) (rest := []) ⟨hx, hb, hml, hown, hts⟩ (m_num l D cJ cB cI cF qm cd n qmr fm cm qmc 0 qmb 0 dm qml mm (fun _ => false) 0 (lN (rRn xs n)) 16 _ (rfl) (rfl) (mB_0 mm _) (by omega) (by omega)) (cwV 2 hts (wsG_k tw_693 (wsG_k tw_695 (wsG_k tp_w21 (wsG_k tw_10 (wsG_c tw_696))))) rfl rfl rfl (by decide +kernel) ⟨Nat.le_of_ble_eq_true rfl, Nat.le_of_ble_eq_true rfl⟩) ⟨cf_blind, va_recv hK hPc (ci := 9) (q0 := 0) rfl rfl, cf_pre hPc hK hDc hWd⟩ rfl rfl hl.1 rfl (lv_room (Nat.le_of_ble_eq_true rfl)) dMo_writeRuns_8 ⟨Nat.le_of_ble_eq_true rfl, Nat.le_of_ble_eq_true rfl⟩) (fun u H locs hw hP hD hS => ?_)
  obtain ⟨s2_1, b2_2, m2_3⟩ := u
  obtain ⟨x1, x2, x3, -⟩ := hw
  have x1 : s2_1 = (0 + 16 + 7) / 8 := x1
  have x2 : b2_2 = (0 + 16) % 8 := x2
  have x3 : mB m2_3 (0 + 16) (bA (fun _ => false) 0 (lN (rRn xs n)) 16) := x3
  have hP : va_P D vwCl [(qmr, .inl (cJ, 1024, .inr (.inl xs))), (qm, .inr (9, [.int cd, .int (nI n), .ref qmr, .int fm, .int (nI cm), .ref qmc, .int (nI s2_1), .ref qmb, .int (nI b2_2), .int (nI dm), .ref qml])), (qmb, .inl (cI, 10400, .inl m2_3))] H := hP
  have hD : va_D A [(qmr, .inl (cJ, 1024, .inr (.inl xs))), (qm, .inr (9, [.int cd, .int (nI n), .ref qmr, .int fm, .int (nI cm), .ref qmc, .int (nI s2_1), .ref qmb, .int (nI b2_2), .int (nI dm), .ref qml])), (qmb, .inl (cI, 10400, .inl m2_3))] := hD
  refine lv_iconst (v := nI 0) hx hb dMo_writeRuns_11 (by decide) ?_
  refine lv_istore_n (lv' := [(1, .int (nI 0)), (0, .ref qm)]) hx hb dMo_writeRuns_12 rfl hl (by decide) rfl (fun ls hl => ?_)
  refine lv_iconst (v := nI 1) hx hb dMo_writeRuns_13 (by decide) ?_
  refine lv_istore_n (lv' := [(2, .int (nI 1)), (1, .int (nI 0)), (0, .ref qm)]) hx hb dMo_writeRuns_14 rfl hl (by decide) rfl (fun ls hl => ?_)
  have lp : ∀ (k_lp : Nat) (i : Nat) (st : Nat) (bq : Nat) (s1 : Nat) (b1 : Nat) (m1 : Nat → Int32) (B1 : Nat → Bool) (k : Nat) (sb : Nat → Nat), (1 ≤ i) → (i ≤ n + 1) → (rSt xs n i st k sb) → (bq = 16 + 80 * k) → (s1 = (bq + 7) / 8) → (b1 = bq % 8) → (mB m1 bq B1) → (fld B1 0 16 (lN (rRn xs n))) → (∀ m, m < k → fld B1 (16 + 80 * m) 64 (xs (sb m))) → (∀ m, m < k → fld B1 (16 + 80 * m + 64) 16 (lN (sb (m + 1) - sb m))) → (n + 1 - i < k_lp) → ∀ (H : Heap) (locs : List Loc) (ls : Array Slot), va_P D vwCl [(qm, .inr (9, [.int cd, .int (nI n), .ref qmr, .int fm, .int (nI cm), .ref qmc, .int (nI s1), .ref qmb, .int (nI b1), .int (nI dm), .ref qml])), (qmr, .inl (cJ, 1024, .inr (.inl xs))), (qmb, .inl (cI, 10400, .inl m1))] H → va_D A [(qm, .inr (9, [.int cd, .int (nI n), .ref qmr, .int fm, .int (nI cm), .ref qmc, .int (nI s1), .ref qmb, .int (nI b1), .int (nI dm), .ref qml])), (qmr, .inl (cJ, 1024, .inr (.inl xs))), (qmb, .inl (cI, 10400, .inl m1))] → va_S A s.heap H locs → lv_has ls 3 [(0, .ref qm), (1, .int (nI st)), (2, .int (nI i))] → W p l e ({ frames := 2, cells := 0, slots := 0, locals := 45 }) s m ([.ref qm].toArray) below meth c H locs (0) (0) Q (F0 m 15 ls []) := by
    intro k_lp
    induction k_lp with
    | zero => intro i st bq s1 b1 m1 B1 k sb g0 g1 g2 g3 e1 e2 e3 g5 g6 g7 hfu; exact absurd hfu (by omega)
    | succ k_lp ih_lp =>
      intro i st bq s1 b1 m1 B1 k sb g0 g1 g2 g3 e1 e2 e3 g5 g6 g7 hfu H locs ls hP hD hS hl
      have hks := rSt_k g2
      have hsn := g2.2.2.2.2.2
      refine lv_iload_n hx hb dMo_writeRuns_15 rfl (lv_at hl 2 rfl) ?_
      refine lv_aload_n hx hb dMo_writeRuns_16 rfl (lv_at hl 0 rfl) ?_
      refine va_get (D := D) (ci := 9) (v := .int (nI n)) (C := "ColumnFormsModel") (T := TMo) (N := 11) hx hb hts inMo hown hK hP 0 rfl rfl 1 (by decide) (hts _ tw_590) (fun _ h9 => h9) rfl dMo_writeRuns_17 ?_
      refine lv_icmp_gt (tgt := 77) hx hb dMo_writeRuns_20 (by decide) (fun c20 => ?_) (fun c20 => ?_)
      · have c20 : n < i := (nI_ltI (by omega) (by omega)).mp c20
        exact hret (bq, s1, b1, m1, B1) _ _ _ _ _ _ ⟨e1, e2, e3, lR_of (by have e : i = n + 1 := (by omega); rw [← e]; exact g2) rfl g3 g5 g6 g7, by show bq ≤ _; omega, trivial⟩ (hP.sub [0, 1, 2] rfl) (hD.sub [0, 1, 2] (by decide) rfl) hS (Nat.le_of_ble_eq_true rfl) (Nat.le_of_ble_eq_true rfl) dMo_writeRuns_77
      · have c20 : ¬ n < i := fun h => c20 ((nI_ltI (by omega) (by omega)).mpr h)
        refine lv_iload_n hx hb dMo_writeRuns_23 rfl (lv_at hl 2 rfl) ?_
        refine lv_aload_n hx hb dMo_writeRuns_24 rfl (lv_at hl 0 rfl) ?_
        refine va_get (D := D) (ci := 9) (v := .int (nI n)) (C := "ColumnFormsModel") (T := TMo) (N := 11) hx hb hts inMo hown hK hP 0 rfl rfl 1 (by decide) (hts _ tw_590) (fun _ h9 => h9) rfl dMo_writeRuns_25 ?_
        refine lv_icmp_eq (tgt := 47) hx hb dMo_writeRuns_28 (by decide) (fun c28 => ?_) (fun c28 => ?_)
        · have c28 : i = n := (nI_eq (by omega) (by omega)).mp c28
          have hst := (g2.2.2.1 (by omega)).1
          refine lv_aload_n hx hb dMo_writeRuns_47 rfl (lv_at hl 0 rfl) ?_
          refine lv_aload_n hx hb dMo_writeRuns_48 rfl (lv_at hl 0 rfl) ?_
          refine va_get (D := D) (ci := 9) (v := .ref qmr) (C := "ColumnFormsModel") (T := TMo) (N := 11) hx hb hts inMo hown hK hP 0 rfl rfl 2 (by decide) (hts _ tw_591) (fun _ h9 => h9) rfl dMo_writeRuns_49 ?_
          refine lv_iload_n hx hb dMo_writeRuns_52 rfl (lv_at hl 1 rfl) ?_
          refine va_lald hx hb hK hP 1 0 rfl rfl (vp_in_nI (by omega) (by omega)) dMo_writeRuns_53 ?_
          refine tp_l (show (xs (nI st).toNatClampNeg) = (xs st) from congrArg _ (nI_clamp (by omega))) ?_
          refine lv_bipush (v := nI 64) hx hb dMo_writeRuns_54 (by decide) ?_
          refine kc_v (wc := [(qm, .inr (9, [.int cd, .int (nI n), .ref qmr, .int fm, .int (nI cm), .ref qmc, .int (nI s1), .ref qmb, .int (nI b1), .int (nI dm), .ref qml])), (qmb, .inl (cI, 10400, .inl m1))]) (wr := [(qmr, .inl (cJ, 1024, .inr (.inl xs)))]) hP hD hS hA [0, 2] [1] rfl rfl (by decide) (by decide) (by decide) (fun hPc hDc => va_runV (As := [.long (xs st), .int (nI 64)]) (rest := []) ⟨hx, hb, hml, hown, hts⟩ (m_num l D cJ cB cI cF qm cd n qmr fm cm qmc s1 qmb b1 dm qml m1 B1 bq (xs st) 64 _ (e1) (e2) (e3) (by omega) (by omega)) (cwV 2 hts (wsG_k tw_693 (wsG_k tw_695 (wsG_k tp_w21 (wsG_k tw_10 (wsG_c tw_696))))) rfl rfl rfl (by decide +kernel) ⟨Nat.le_of_ble_eq_true rfl, Nat.le_of_ble_eq_true rfl⟩) ⟨cf_blind, va_recv hK hPc (ci := 9) (q0 := 0) rfl rfl, cf_pre hPc hK hDc hWd⟩ rfl rfl hl.1 rfl (lv_room (Nat.le_of_ble_eq_true rfl)) dMo_writeRuns_56 ⟨Nat.le_of_ble_eq_true rfl, Nat.le_of_ble_eq_true rfl⟩) (fun u H locs hw hP hD hS => ?_)
          obtain ⟨s2_4, b2_5, m2_6⟩ := u
          obtain ⟨y1, y2, y3, -⟩ := hw
          have y1 : s2_4 = (bq + 64 + 7) / 8 := y1
          have y2 : b2_5 = (bq + 64) % 8 := y2
          have y3 : mB m2_6 (bq + 64) (bA B1 bq (xs st) 64) := y3
          have hP : va_P D vwCl [(qmr, .inl (cJ, 1024, .inr (.inl xs))), (qm, .inr (9, [.int cd, .int (nI n), .ref qmr, .int fm, .int (nI cm), .ref qmc, .int (nI s2_4), .ref qmb, .int (nI b2_5), .int (nI dm), .ref qml])), (qmb, .inl (cI, 10400, .inl m2_6))] H := hP
          have hD : va_D A [(qmr, .inl (cJ, 1024, .inr (.inl xs))), (qm, .inr (9, [.int cd, .int (nI n), .ref qmr, .int fm, .int (nI cm), .ref qmc, .int (nI s2_4), .ref qmb, .int (nI b2_5), .int (nI dm), .ref qml])), (qmb, .inl (cI, 10400, .inl m2_6))] := hD
          refine lv_aload_n hx hb dMo_writeRuns_59 rfl (lv_at hl 0 rfl) ?_
          refine lv_iload_n hx hb dMo_writeRuns_60 rfl (lv_at hl 2 rfl) ?_
          refine lv_iload_n hx hb dMo_writeRuns_61 rfl (lv_at hl 1 rfl) ?_
          refine lv_isub hx hb dMo_writeRuns_62 ?_
          refine tp_i (show ((nI i) - (nI st)) = (nI (i - st)) from pk_sub (by omega)) ?_
          refine lv_i2l hx hb dMo_writeRuns_63 rfl ?_
          refine tp_l (show ((nI (i - st)).toInt64) = (lN (i - st)) from nI_l (by omega)) ?_
          refine lv_bipush (v := nI 16) hx hb dMo_writeRuns_64 (by decide) ?_
          refine kc_v (wc := [(qm, .inr (9, [.int cd, .int (nI n), .ref qmr, .int fm, .int (nI cm), .ref qmc, .int (nI s2_4), .ref qmb, .int (nI b2_5), .int (nI dm), .ref qml])), (qmb, .inl (cI, 10400, .inl m2_6))]) (wr := [(qmr, .inl (cJ, 1024, .inr (.inl xs)))]) hP hD hS hA [1, 2] [0] rfl rfl (by decide) (by decide) (by decide) (fun hPc hDc => va_runV (As := [.long (lN (i - st)), .int (nI 16)]) (rest := []) ⟨hx, hb, hml, hown, hts⟩ (m_num l D cJ cB cI cF qm cd n qmr fm cm qmc s2_4 qmb b2_5 dm qml m2_6 (bA B1 bq (xs st) 64) (bq + 64) (lN (i - st)) 16 _ (y1) (y2) (y3) (by omega) (by omega)) (cwV 2 hts (wsG_k tw_693 (wsG_k tw_695 (wsG_k tp_w21 (wsG_k tw_10 (wsG_c tw_696))))) rfl rfl rfl (by decide +kernel) ⟨Nat.le_of_ble_eq_true rfl, Nat.le_of_ble_eq_true rfl⟩) ⟨cf_blind, va_recv hK hPc (ci := 9) (q0 := 0) rfl rfl, cf_pre hPc hK hDc hWd⟩ rfl rfl hl.1 rfl (lv_room (Nat.le_of_ble_eq_true rfl)) dMo_writeRuns_66 ⟨Nat.le_of_ble_eq_true rfl, Nat.le_of_ble_eq_true rfl⟩) (fun u H locs hw hP hD hS => ?_)
          obtain ⟨s2_7, b2_8, m2_9⟩ := u
          obtain ⟨z1, z2, z3, -⟩ := hw
          have z1 : s2_7 = ((bq + 64) + 16 + 7) / 8 := z1
          have z2 : b2_8 = ((bq + 64) + 16) % 8 := z2
          have z3 : mB m2_9 ((bq + 64) + 16) (bA (bA B1 bq (xs st) 64) (bq + 64) (lN (i - st)) 16) := z3
          have hP : va_P D vwCl [(qmr, .inl (cJ, 1024, .inr (.inl xs))), (qm, .inr (9, [.int cd, .int (nI n), .ref qmr, .int fm, .int (nI cm), .ref qmc, .int (nI s2_7), .ref qmb, .int (nI b2_8), .int (nI dm), .ref qml])), (qmb, .inl (cI, 10400, .inl m2_9))] H := hP
          have hD : va_D A [(qmr, .inl (cJ, 1024, .inr (.inl xs))), (qm, .inr (9, [.int cd, .int (nI n), .ref qmr, .int fm, .int (nI cm), .ref qmc, .int (nI s2_7), .ref qmb, .int (nI b2_8), .int (nI dm), .ref qml])), (qmb, .inl (cI, 10400, .inl m2_9))] := hD
          refine lv_iload_n hx hb dMo_writeRuns_69 rfl (lv_at hl 2 rfl) ?_
          refine lv_istore_n (lv' := [(1, .int (nI i)), (0, .ref qm), (2, .int (nI i))]) hx hb dMo_writeRuns_70 rfl hl (by decide) rfl (fun ls hl => ?_)
          refine lv_iinc (v := nI (i + 1)) (lv' := [(2, .int (nI (i + 1))), (1, .int (nI i)), (0, .ref qm)]) hx hb dMo_writeRuns_71 hl (k := 2) rfl (by rw [show (Int32.ofInt 1) = nI 1 from by decide]; exact nI_add _ _) (by decide) rfl (fun ls hl => ?_)
          refine lv_goto (tgt := 15) hx hb dMo_writeRuns_74 (by decide) ?_
          exact ih_lp (i + 1) i (bq + 64 + 16) s2_7 b2_8 m2_9 (bA (bA B1 bq (xs st) 64) (bq + 64) (lN (i - st)) 16) (k + 1) (nUp sb (k + 1) i) (by omega) (by omega) (rSt_run g2 (by omega) (Or.inl c28)) (by omega) (z1) (z2) (z3) (fld_keep (fld_keep g5 (by omega)) (by omega)) (fld_all (a := fun m => 16 + 80 * m) (wd := fun _ => 64) (vl := fun m => xs (nUp sb (k + 1) i m)) (fld_add (a := fun m => 16 + 80 * m) (wd := fun _ => 64) (vl := fun m => xs (nUp sb (k + 1) i m)) (fld_nUp g6) (fun j hj => by show 16 + 80 * j + 64 ≤ bq; omega) (by show 16 + 80 * k = bq; omega) (by show xs (nUp sb (k + 1) i k) = _; rw [nUp_n (by omega), g2.2.1]) rfl) (fun j hj => by show 16 + 80 * j + 64 ≤ bq + 64; omega)) (fld_add (a := fun m => 16 + 80 * m + 64) (wd := fun _ => 16) (vl := fun m => lN (nUp sb (k + 1) i (m + 1) - nUp sb (k + 1) i m)) (fld_all (a := fun m => 16 + 80 * m + 64) (wd := fun _ => 16) (vl := fun m => lN (nUp sb (k + 1) i (m + 1) - nUp sb (k + 1) i m)) (fld_nUp2 g7) (fun j hj => by show 16 + 80 * j + 64 + 16 ≤ bq; omega)) (fun j hj => by show 16 + 80 * j + 64 + 16 ≤ bq + 64; omega) (by show 16 + 80 * k + 64 = bq + 64; omega) (by show lN (nUp sb (k + 1) i (k + 1) - nUp sb (k + 1) i k) = _; rw [nUp_s, nUp_n (by omega), g2.2.1]) rfl) (by omega) _ _ _ (hP.sub [1, 0, 2] rfl) (hD.sub [1, 0, 2] (by decide) rfl) hS (lv_sub hl [2, 1, 0] rfl)
        · have c28 : ¬ i = n := fun h => c28 ((nI_eq (by omega) (by omega)).mpr h)
          have hst := (g2.2.2.1 (by omega)).1
          refine lv_aload_n hx hb dMo_writeRuns_31 rfl (lv_at hl 0 rfl) ?_
          refine va_get (D := D) (ci := 9) (v := .ref qmr) (C := "ColumnFormsModel") (T := TMo) (N := 11) hx hb hts inMo hown hK hP 0 rfl rfl 2 (by decide) (hts _ tw_591) (fun _ h9 => h9) rfl dMo_writeRuns_32 ?_
          refine lv_iload_n hx hb dMo_writeRuns_35 rfl (lv_at hl 2 rfl) ?_
          refine va_lald hx hb hK hP 1 0 rfl rfl (vp_in_nI (by omega) (by omega)) dMo_writeRuns_36 ?_
          refine tp_l (show (xs (nI i).toNatClampNeg) = (xs i) from congrArg _ (nI_clamp (by omega))) ?_
          refine lv_aload_n hx hb dMo_writeRuns_37 rfl (lv_at hl 0 rfl) ?_
          refine va_get (D := D) (ci := 9) (v := .ref qmr) (C := "ColumnFormsModel") (T := TMo) (N := 11) hx hb hts inMo hown hK hP 0 rfl rfl 2 (by decide) (hts _ tw_591) (fun _ h9 => h9) rfl dMo_writeRuns_38 ?_
          refine lv_iload_n hx hb dMo_writeRuns_41 rfl (lv_at hl 1 rfl) ?_
          refine va_lald hx hb hK hP 1 0 rfl rfl (vp_in_nI (by omega) (by omega)) dMo_writeRuns_42 ?_
          refine tp_l (show (xs (nI st).toNatClampNeg) = (xs st) from congrArg _ (nI_clamp (by omega))) ?_
          refine W.lcmp hx hb dMo_writeRuns_43 ?_
          refine lv_if_eq (tgt := 71) hx hb dMo_writeRuns_44 (by decide) (fun c44 => ?_) (fun c44 => ?_)
          · have c44 : (xs i) = (xs st) := (lg_cmp_eq _ _).mp c44
            refine lv_iinc (v := nI (i + 1)) (lv' := [(2, .int (nI (i + 1))), (0, .ref qm), (1, .int (nI st))]) hx hb dMo_writeRuns_71 hl (k := 2) rfl (by rw [show (Int32.ofInt 1) = nI 1 from by decide]; exact nI_add _ _) (by decide) rfl (fun ls hl => ?_)
            refine lv_goto (tgt := 15) hx hb dMo_writeRuns_74 (by decide) ?_
            exact ih_lp (i + 1) st bq s1 b1 m1 B1 k sb (by omega) (by omega) (rSt_same g2 (by omega) c44) (g3) (e1) (e2) (e3) (g5) (g6) (g7) (by omega) _ _ _ (hP.sub [0, 1, 2] rfl) (hD.sub [0, 1, 2] (by decide) rfl) hS (lv_sub hl [1, 2, 0] rfl)
          · have c44 : ¬ (xs i) = (xs st) := fun h => c44 ((lg_cmp_eq _ _).mpr h)
            refine lv_aload_n hx hb dMo_writeRuns_47 rfl (lv_at hl 0 rfl) ?_
            refine lv_aload_n hx hb dMo_writeRuns_48 rfl (lv_at hl 0 rfl) ?_
            refine va_get (D := D) (ci := 9) (v := .ref qmr) (C := "ColumnFormsModel") (T := TMo) (N := 11) hx hb hts inMo hown hK hP 0 rfl rfl 2 (by decide) (hts _ tw_591) (fun _ h9 => h9) rfl dMo_writeRuns_49 ?_
            refine lv_iload_n hx hb dMo_writeRuns_52 rfl (lv_at hl 1 rfl) ?_
            refine va_lald hx hb hK hP 1 0 rfl rfl (vp_in_nI (by omega) (by omega)) dMo_writeRuns_53 ?_
            refine tp_l (show (xs (nI st).toNatClampNeg) = (xs st) from congrArg _ (nI_clamp (by omega))) ?_
            refine lv_bipush (v := nI 64) hx hb dMo_writeRuns_54 (by decide) ?_
            refine kc_v (wc := [(qm, .inr (9, [.int cd, .int (nI n), .ref qmr, .int fm, .int (nI cm), .ref qmc, .int (nI s1), .ref qmb, .int (nI b1), .int (nI dm), .ref qml])), (qmb, .inl (cI, 10400, .inl m1))]) (wr := [(qmr, .inl (cJ, 1024, .inr (.inl xs)))]) hP hD hS hA [0, 2] [1] rfl rfl (by decide) (by decide) (by decide) (fun hPc hDc => va_runV (As := [.long (xs st), .int (nI 64)]) (rest := []) ⟨hx, hb, hml, hown, hts⟩ (m_num l D cJ cB cI cF qm cd n qmr fm cm qmc s1 qmb b1 dm qml m1 B1 bq (xs st) 64 _ (e1) (e2) (e3) (by omega) (by omega)) (cwV 2 hts (wsG_k tw_693 (wsG_k tw_695 (wsG_k tp_w21 (wsG_k tw_10 (wsG_c tw_696))))) rfl rfl rfl (by decide +kernel) ⟨Nat.le_of_ble_eq_true rfl, Nat.le_of_ble_eq_true rfl⟩) ⟨cf_blind, va_recv hK hPc (ci := 9) (q0 := 0) rfl rfl, cf_pre hPc hK hDc hWd⟩ rfl rfl hl.1 rfl (lv_room (Nat.le_of_ble_eq_true rfl)) dMo_writeRuns_56 ⟨Nat.le_of_ble_eq_true rfl, Nat.le_of_ble_eq_true rfl⟩) (fun u H locs hw hP hD hS => ?_)
            obtain ⟨s2_10, b2_11, m2_12⟩ := u
            obtain ⟨y1, y2, y3, -⟩ := hw
            have y1 : s2_10 = (bq + 64 + 7) / 8 := y1
            have y2 : b2_11 = (bq + 64) % 8 := y2
            have y3 : mB m2_12 (bq + 64) (bA B1 bq (xs st) 64) := y3
            have hP : va_P D vwCl [(qmr, .inl (cJ, 1024, .inr (.inl xs))), (qm, .inr (9, [.int cd, .int (nI n), .ref qmr, .int fm, .int (nI cm), .ref qmc, .int (nI s2_10), .ref qmb, .int (nI b2_11), .int (nI dm), .ref qml])), (qmb, .inl (cI, 10400, .inl m2_12))] H := hP
            have hD : va_D A [(qmr, .inl (cJ, 1024, .inr (.inl xs))), (qm, .inr (9, [.int cd, .int (nI n), .ref qmr, .int fm, .int (nI cm), .ref qmc, .int (nI s2_10), .ref qmb, .int (nI b2_11), .int (nI dm), .ref qml])), (qmb, .inl (cI, 10400, .inl m2_12))] := hD
            refine lv_aload_n hx hb dMo_writeRuns_59 rfl (lv_at hl 0 rfl) ?_
            refine lv_iload_n hx hb dMo_writeRuns_60 rfl (lv_at hl 2 rfl) ?_
            refine lv_iload_n hx hb dMo_writeRuns_61 rfl (lv_at hl 1 rfl) ?_
            refine lv_isub hx hb dMo_writeRuns_62 ?_
            refine tp_i (show ((nI i) - (nI st)) = (nI (i - st)) from pk_sub (by omega)) ?_
            refine lv_i2l hx hb dMo_writeRuns_63 rfl ?_
            refine tp_l (show ((nI (i - st)).toInt64) = (lN (i - st)) from nI_l (by omega)) ?_
            refine lv_bipush (v := nI 16) hx hb dMo_writeRuns_64 (by decide) ?_
            refine kc_v (wc := [(qm, .inr (9, [.int cd, .int (nI n), .ref qmr, .int fm, .int (nI cm), .ref qmc, .int (nI s2_10), .ref qmb, .int (nI b2_11), .int (nI dm), .ref qml])), (qmb, .inl (cI, 10400, .inl m2_12))]) (wr := [(qmr, .inl (cJ, 1024, .inr (.inl xs)))]) hP hD hS hA [1, 2] [0] rfl rfl (by decide) (by decide) (by decide) (fun hPc hDc => va_runV (As := [.long (lN (i - st)), .int (nI 16)]) (rest := []) ⟨hx, hb, hml, hown, hts⟩ (m_num l D cJ cB cI cF qm cd n qmr fm cm qmc s2_10 qmb b2_11 dm qml m2_12 (bA B1 bq (xs st) 64) (bq + 64) (lN (i - st)) 16 _ (y1) (y2) (y3) (by omega) (by omega)) (cwV 2 hts (wsG_k tw_693 (wsG_k tw_695 (wsG_k tp_w21 (wsG_k tw_10 (wsG_c tw_696))))) rfl rfl rfl (by decide +kernel) ⟨Nat.le_of_ble_eq_true rfl, Nat.le_of_ble_eq_true rfl⟩) ⟨cf_blind, va_recv hK hPc (ci := 9) (q0 := 0) rfl rfl, cf_pre hPc hK hDc hWd⟩ rfl rfl hl.1 rfl (lv_room (Nat.le_of_ble_eq_true rfl)) dMo_writeRuns_66 ⟨Nat.le_of_ble_eq_true rfl, Nat.le_of_ble_eq_true rfl⟩) (fun u H locs hw hP hD hS => ?_)
            obtain ⟨s2_13, b2_14, m2_15⟩ := u
            obtain ⟨z1, z2, z3, -⟩ := hw
            have z1 : s2_13 = ((bq + 64) + 16 + 7) / 8 := z1
            have z2 : b2_14 = ((bq + 64) + 16) % 8 := z2
            have z3 : mB m2_15 ((bq + 64) + 16) (bA (bA B1 bq (xs st) 64) (bq + 64) (lN (i - st)) 16) := z3
            have hP : va_P D vwCl [(qmr, .inl (cJ, 1024, .inr (.inl xs))), (qm, .inr (9, [.int cd, .int (nI n), .ref qmr, .int fm, .int (nI cm), .ref qmc, .int (nI s2_13), .ref qmb, .int (nI b2_14), .int (nI dm), .ref qml])), (qmb, .inl (cI, 10400, .inl m2_15))] H := hP
            have hD : va_D A [(qmr, .inl (cJ, 1024, .inr (.inl xs))), (qm, .inr (9, [.int cd, .int (nI n), .ref qmr, .int fm, .int (nI cm), .ref qmc, .int (nI s2_13), .ref qmb, .int (nI b2_14), .int (nI dm), .ref qml])), (qmb, .inl (cI, 10400, .inl m2_15))] := hD
            refine lv_iload_n hx hb dMo_writeRuns_69 rfl (lv_at hl 2 rfl) ?_
            refine lv_istore_n (lv' := [(1, .int (nI i)), (0, .ref qm), (2, .int (nI i))]) hx hb dMo_writeRuns_70 rfl hl (by decide) rfl (fun ls hl => ?_)
            refine lv_iinc (v := nI (i + 1)) (lv' := [(2, .int (nI (i + 1))), (1, .int (nI i)), (0, .ref qm)]) hx hb dMo_writeRuns_71 hl (k := 2) rfl (by rw [show (Int32.ofInt 1) = nI 1 from by decide]; exact nI_add _ _) (by decide) rfl (fun ls hl => ?_)
            refine lv_goto (tgt := 15) hx hb dMo_writeRuns_74 (by decide) ?_
            exact ih_lp (i + 1) i (bq + 64 + 16) s2_13 b2_14 m2_15 (bA (bA B1 bq (xs st) 64) (bq + 64) (lN (i - st)) 16) (k + 1) (nUp sb (k + 1) i) (by omega) (by omega) (rSt_run g2 (by omega) (Or.inr c44)) (by omega) (z1) (z2) (z3) (fld_keep (fld_keep g5 (by omega)) (by omega)) (fld_all (a := fun m => 16 + 80 * m) (wd := fun _ => 64) (vl := fun m => xs (nUp sb (k + 1) i m)) (fld_add (a := fun m => 16 + 80 * m) (wd := fun _ => 64) (vl := fun m => xs (nUp sb (k + 1) i m)) (fld_nUp g6) (fun j hj => by show 16 + 80 * j + 64 ≤ bq; omega) (by show 16 + 80 * k = bq; omega) (by show xs (nUp sb (k + 1) i k) = _; rw [nUp_n (by omega), g2.2.1]) rfl) (fun j hj => by show 16 + 80 * j + 64 ≤ bq + 64; omega)) (fld_add (a := fun m => 16 + 80 * m + 64) (wd := fun _ => 16) (vl := fun m => lN (nUp sb (k + 1) i (m + 1) - nUp sb (k + 1) i m)) (fld_all (a := fun m => 16 + 80 * m + 64) (wd := fun _ => 16) (vl := fun m => lN (nUp sb (k + 1) i (m + 1) - nUp sb (k + 1) i m)) (fld_nUp2 g7) (fun j hj => by show 16 + 80 * j + 64 + 16 ≤ bq; omega)) (fun j hj => by show 16 + 80 * j + 64 + 16 ≤ bq + 64; omega) (by show 16 + 80 * k + 64 = bq + 64; omega) (by show lN (nUp sb (k + 1) i (k + 1) - nUp sb (k + 1) i k) = _; rw [nUp_s, nUp_n (by omega), g2.2.1]) rfl) (by omega) _ _ _ (hP.sub [1, 0, 2] rfl) (hD.sub [1, 0, 2] (by decide) rfl) hS (lv_sub hl [2, 1, 0] rfl)
  exact lp (n + 1 - 1 + 1) 1 0 (0 + 16) s2_1 b2_2 m2_3 (bA (fun _ => false) 0 (lN (rRn xs n)) 16) 0 (fun _ => 0) (by omega) (by omega) (rSt_0 hn0) (rfl) (x1) (x2) (x3) (bA_fld _ _ _ _) (fun j hj => absurd hj (by omega)) (fun j hj => absurd hj (by omega)) (by omega) _ _ _ (hP.sub [1, 0, 2] rfl) (hD.sub [1, 0, 2] (by decide) rfl) hS (lv_sub hl [2, 1, 0] rfl)

set_option maxHeartbeats 4000000 in
set_option maxRecDepth 100000 in
theorem m_wList (l : Launch) (D : va_G) (cJ cB cI cF : ClassId) (qm : Nat) (cd : Int32) (n : Nat) (qmr : Nat) (fm : Int32) (cm : Nat) (qmc : Nat) (qmb : Nat) (dm : Nat) (qml : Nat) (xs : Nat → Int64) (lm : Nat → Int64) (mm : Nat → Int32) (sz : Nat) (hn0 : 0 < n) (hn : n ≤ 1024) : Met l yMo_writeList (Cond.code yMo_writeList cMo_writeList 3 none :: wsG) ({ frames := 2, cells := 0, slots := 0, locals := 46 }) (va_Pc [.ref qm] (cfPre D (cfT cJ cB cI cF) [(qm, .inr (9, [.int cd, .int (nI n), .ref qmr, .int fm, .int (nI cm), .ref qmc, .int (nI 0), .ref qmb, .int (nI 0), .int (nI dm), .ref qml])), (qmr, .inl (cJ, 1024, .inr (.inl xs))), (qml, .inl (cJ, 1024, .inr (.inl lm))), (qmb, .inl (cI, 10400, .inl mm))] sz)) (va_Qv (fun (u : Nat × Nat × Nat × (Nat → Int32) × (Nat → Bool) × Nat × (Nat → Int64)) => (u.2.1 = (u.1 + 7) / 8) ∧ (u.2.2.1 = u.1 % 8) ∧ (mB u.2.2.2.1 u.1 u.2.2.2.2.1) ∧ (lL xs n u.1 u.2.2.2.2.1) ∧ (u.1 ≤ 81936) ∧ True) (fun u t => cfPost D ((fun (u : Nat × Nat × Nat × (Nat → Int32) × (Nat → Bool) × Nat × (Nat → Int64)) => [(qm, .inr (9, [.int cd, .int (nI n), .ref qmr, .int fm, .int (nI cm), .ref qmc, .int (nI u.2.1), .ref qmb, .int (nI u.2.2.1), .int (nI u.2.2.2.2.2.1), .ref qml])), (qmr, .inl (cJ, 1024, .inr (.inl xs))), (qml, .inl (cJ, 1024, .inr (.inl u.2.2.2.2.2.2))), (qmb, .inl (cI, 10400, .inl u.2.2.2.1))]) u) (va_A [(qm, .inr (9, [.int cd, .int (nI n), .ref qmr, .int fm, .int (nI cm), .ref qmc, .int (nI 0), .ref qmb, .int (nI 0), .int (nI dm), .ref qml])), (qmr, .inl (cJ, 1024, .inr (.inl xs))), (qml, .inl (cJ, 1024, .inr (.inl lm))), (qmb, .inl (cI, 10400, .inl mm))] sz) t) (va_A [(qm, .inr (9, [.int cd, .int (nI n), .ref qmr, .int fm, .int (nI cm), .ref qmc, .int (nI 0), .ref qmb, .int (nI 0), .int (nI dm), .ref qml])), (qmr, .inl (cJ, 1024, .inr (.inl xs))), (qml, .inl (cJ, 1024, .inr (.inl lm))), (qmb, .inl (cI, 10400, .inl mm))] sz)) 0 0 (va_A [(qm, .inr (9, [.int cd, .int (nI n), .ref qmr, .int fm, .int (nI cm), .ref qmc, .int (nI 0), .ref qmb, .int (nI 0), .int (nI dm), .ref qml])), (qmr, .inl (cJ, 1024, .inr (.inl xs))), (qml, .inl (cJ, 1024, .inr (.inl lm))), (qmb, .inl (cI, 10400, .inl mm))] sz) := by
  refine met_v (cc := cMo_writeList) (maxL := 3) (S := Nat × Nat × Nat × (Nat → Int32) × (Nat → Bool) × Nat × (Nat → Int64)) (D := D) (wO := fun (u : Nat × Nat × Nat × (Nat → Int32) × (Nat → Bool) × Nat × (Nat → Int64)) => [(qm, .inr (9, [.int cd, .int (nI n), .ref qmr, .int fm, .int (nI cm), .ref qmc, .int (nI u.2.1), .ref qmb, .int (nI u.2.2.1), .int (nI u.2.2.2.2.2.1), .ref qml])), (qmr, .inl (cJ, 1024, .inr (.inl xs))), (qml, .inl (cJ, 1024, .inr (.inl u.2.2.2.2.2.2))), (qmb, .inl (cI, 10400, .inl u.2.2.2.1))]) (by decide) (Nat.le_of_ble_eq_true rfl) ?_
  intro p e s m below meth c hx hb hml hown hts hlocks hin hWd A hA hsz hP hK hD hS Q hret ls hl
  have hown : s.vm.findClass "ColumnFormsModel" = some m.cls := hown
  have hl : lv_has ls 3 [(0, .ref qm)] := hl
  have hP : va_P D vwCl [(qm, .inr (9, [.int cd, .int (nI n), .ref qmr, .int fm, .int (nI cm), .ref qmc, .int (nI 0), .ref qmb, .int (nI 0), .int (nI dm), .ref qml])), (qmr, .inl (cJ, 1024, .inr (.inl xs))), (qml, .inl (cJ, 1024, .inr (.inl lm))), (qmb, .inl (cI, 10400, .inl mm))] s.heap := hP
  refine lv_aload_n hx hb dMo_writeList_0 rfl (lv_at hl 0 rfl) ?_
  refine kc_v (wc := [(qm, .inr (9, [.int cd, .int (nI n), .ref qmr, .int fm, .int (nI cm), .ref qmc, .int (nI 0), .ref qmb, .int (nI 0), .int (nI dm), .ref qml])), (qmr, .inl (cJ, 1024, .inr (.inl xs))), (qml, .inl (cJ, 1024, .inr (.inl lm)))]) (wr := [(qmb, .inl (cI, 10400, .inl mm))]) hP hD hS hA [0, 1, 2] [3] rfl rfl (by decide) (by decide) (by decide) (fun hPc hDc => va_runV (As := []) (rest := []) ⟨hx, hb, hml, hown, hts⟩ (m_listAll l D cJ cB cI cF qm cd n qmr fm cm qmc 0 qmb 0 dm qml xs lm _ (hn)) (cwV 0 hts (wsG_k tw_661 (wsG_k tw_663 (wsG_k tp_w14 (wsG_k tw_10 (wsG_c tw_664))))) rfl rfl rfl (by decide +kernel) ⟨Nat.le_of_ble_eq_true rfl, Nat.le_of_ble_eq_true rfl⟩) ⟨cf_blind, va_recv hK hPc (ci := 9) (q0 := 0) rfl rfl, cf_pre hPc hK hDc hWd⟩ rfl rfl hl.1 rfl (lv_room (Nat.le_of_ble_eq_true rfl)) dMo_writeList_1 ⟨Nat.le_of_ble_eq_true rfl, Nat.le_of_ble_eq_true rfl⟩) (fun u H locs hw hP hD hS => ?_)
  obtain ⟨d, rs⟩ := u
  obtain ⟨hI, -⟩ := hw
  have hI : rInv xs n rs d := hI
  have hP : va_P D vwCl [(qmb, .inl (cI, 10400, .inl mm)), (qm, .inr (9, [.int cd, .int (nI n), .ref qmr, .int fm, .int (nI cm), .ref qmc, .int (nI 0), .ref qmb, .int (nI 0), .int (nI d), .ref qml])), (qmr, .inl (cJ, 1024, .inr (.inl xs))), (qml, .inl (cJ, 1024, .inr (.inl rs)))] H := hP
  have hD : va_D A [(qmb, .inl (cI, 10400, .inl mm)), (qm, .inr (9, [.int cd, .int (nI n), .ref qmr, .int fm, .int (nI cm), .ref qmc, .int (nI 0), .ref qmb, .int (nI 0), .int (nI d), .ref qml])), (qmr, .inl (cJ, 1024, .inr (.inl xs))), (qml, .inl (cJ, 1024, .inr (.inl rs)))] := hD
  have hd1 := hI.2.1
  have hd0 := hI.2.2.2.2 hn0
  obtain ⟨pl, hpl⟩ : ∃ pl : Nat → Nat, ∀ i, rPl rs d (xs i) (pl i) := ⟨fun i => (rPl_ex (xs i) hI.1).choose, fun i => (rPl_ex (xs i) hI.1).choose_spec⟩
  refine lv_aload_n hx hb dMo_writeList_4 rfl (lv_at hl 0 rfl) ?_
  refine lv_aload_n hx hb dMo_writeList_5 rfl (lv_at hl 0 rfl) ?_
  refine va_get (D := D) (ci := 9) (v := .int (nI d)) (C := "ColumnFormsModel") (T := TMo) (N := 11) hx hb hts inMo hown hK hP 1 rfl rfl 9 (by decide) (hts _ tw_598) (fun _ h9 => h9) rfl dMo_writeList_6 ?_
  refine lv_i2l hx hb dMo_writeList_9 rfl ?_
  refine tp_l (show ((nI d).toInt64) = (lN d) from nI_l (by omega)) ?_
  refine lv_bipush (v := nI 16) hx hb dMo_writeList_10 (by decide) ?_
  refine kc_v (wc := [(qm, .inr (9, [.int cd, .int (nI n), .ref qmr, .int fm, .int (nI cm), .ref qmc, .int (nI 0), .ref qmb, .int (nI 0), .int (nI d), .ref qml])), (qmb, .inl (cI, 10400, .inl mm))]) (wr := [(qmr, .inl (cJ, 1024, .inr (.inl xs))), (qml, .inl (cJ, 1024, .inr (.inl rs)))]) hP hD hS hA [1, 0] [2, 3] rfl rfl (by decide) (by decide) (by decide) (fun hPc hDc => va_runV (As := [.long (lN d), .int (nI 16)]) (rest := []) ⟨hx, hb, hml, hown, hts⟩ (m_num l D cJ cB cI cF qm cd n qmr fm cm qmc 0 qmb 0 d qml mm (fun _ => false) 0 (lN d) 16 _ (rfl) (rfl) (mB_0 mm _) (by omega) (by omega)) (cwV 2 hts (wsG_k tw_693 (wsG_k tw_695 (wsG_k tp_w21 (wsG_k tw_10 (wsG_c tw_696))))) rfl rfl rfl (by decide +kernel) ⟨Nat.le_of_ble_eq_true rfl, Nat.le_of_ble_eq_true rfl⟩) ⟨cf_blind, va_recv hK hPc (ci := 9) (q0 := 0) rfl rfl, cf_pre hPc hK hDc hWd⟩ rfl rfl hl.1 rfl (lv_room (Nat.le_of_ble_eq_true rfl)) dMo_writeList_12 ⟨Nat.le_of_ble_eq_true rfl, Nat.le_of_ble_eq_true rfl⟩) (fun u H locs hw hP hD hS => ?_)
  obtain ⟨s2_1, b2_2, m2_3⟩ := u
  obtain ⟨x1, x2, x3, -⟩ := hw
  have x1 : s2_1 = (0 + 16 + 7) / 8 := x1
  have x2 : b2_2 = (0 + 16) % 8 := x2
  have x3 : mB m2_3 (0 + 16) (bA (fun _ => false) 0 (lN d) 16) := x3
  have hP : va_P D vwCl [(qmr, .inl (cJ, 1024, .inr (.inl xs))), (qml, .inl (cJ, 1024, .inr (.inl rs))), (qm, .inr (9, [.int cd, .int (nI n), .ref qmr, .int fm, .int (nI cm), .ref qmc, .int (nI s2_1), .ref qmb, .int (nI b2_2), .int (nI d), .ref qml])), (qmb, .inl (cI, 10400, .inl m2_3))] H := hP
  have hD : va_D A [(qmr, .inl (cJ, 1024, .inr (.inl xs))), (qml, .inl (cJ, 1024, .inr (.inl rs))), (qm, .inr (9, [.int cd, .int (nI n), .ref qmr, .int fm, .int (nI cm), .ref qmc, .int (nI s2_1), .ref qmb, .int (nI b2_2), .int (nI d), .ref qml])), (qmb, .inl (cI, 10400, .inl m2_3))] := hD
  refine lv_iconst (v := nI 0) hx hb dMo_writeList_15 (by decide) ?_
  refine lv_istore_n (lv' := [(1, .int (nI 0)), (0, .ref qm)]) hx hb dMo_writeList_16 rfl hl (by decide) rfl (fun ls hl => ?_)
  have lp1 : ∀ (k_lp1 : Nat) (k : Nat) (bq : Nat) (s1 : Nat) (b1 : Nat) (m1 : Nat → Int32) (B1 : Nat → Bool), (k ≤ d) → (bq = 16 + 64 * k) → (s1 = (bq + 7) / 8) → (b1 = bq % 8) → (mB m1 bq B1) → (fld B1 0 16 (lN d)) → (∀ j, j < k → fld B1 (16 + 64 * j) 64 (rs j)) → (d - k < k_lp1) → ∀ (H : Heap) (locs : List Loc) (ls : Array Slot), va_P D vwCl [(qm, .inr (9, [.int cd, .int (nI n), .ref qmr, .int fm, .int (nI cm), .ref qmc, .int (nI s1), .ref qmb, .int (nI b1), .int (nI d), .ref qml])), (qmr, .inl (cJ, 1024, .inr (.inl xs))), (qml, .inl (cJ, 1024, .inr (.inl rs))), (qmb, .inl (cI, 10400, .inl m1))] H → va_D A [(qm, .inr (9, [.int cd, .int (nI n), .ref qmr, .int fm, .int (nI cm), .ref qmc, .int (nI s1), .ref qmb, .int (nI b1), .int (nI d), .ref qml])), (qmr, .inl (cJ, 1024, .inr (.inl xs))), (qml, .inl (cJ, 1024, .inr (.inl rs))), (qmb, .inl (cI, 10400, .inl m1))] → va_S A s.heap H locs → lv_has ls 3 [(0, .ref qm), (1, .int (nI k))] → W p l e ({ frames := 2, cells := 0, slots := 0, locals := 46 }) s m ([.ref qm].toArray) below meth c H locs (0) (0) Q (F0 m 17 ls []) := by
    intro k_lp1
    induction k_lp1 with
    | zero => intro k bq s1 b1 m1 B1 g1 g2 e1 e2 e3 g4 g5 hfu; exact absurd hfu (by omega)
    | succ k_lp1 ih_lp1 =>
      intro k bq s1 b1 m1 B1 g1 g2 e1 e2 e3 g4 g5 hfu H locs ls hP hD hS hl
      refine lv_iload_n hx hb dMo_writeList_17 rfl (lv_at hl 1 rfl) ?_
      refine lv_aload_n hx hb dMo_writeList_18 rfl (lv_at hl 0 rfl) ?_
      refine va_get (D := D) (ci := 9) (v := .int (nI d)) (C := "ColumnFormsModel") (T := TMo) (N := 11) hx hb hts inMo hown hK hP 0 rfl rfl 9 (by decide) (hts _ tw_598) (fun _ h9 => h9) rfl dMo_writeList_19 ?_
      refine lv_icmp_ge (tgt := 43) hx hb dMo_writeList_22 (by decide) (fun c22 => ?_) (fun c22 => ?_)
      · have c22 : d ≤ k := (nI_leI (by omega) (by omega)).mp c22
        refine lv_aload_n hx hb dMo_writeList_43 rfl (lv_at hl 0 rfl) ?_
        refine va_get (D := D) (ci := 9) (v := .int (nI d)) (C := "ColumnFormsModel") (T := TMo) (N := 11) hx hb hts inMo hown hK hP 0 rfl rfl 9 (by decide) (hts _ tw_598) (fun _ h9 => h9) rfl dMo_writeList_44 ?_
        refine lv_iconst (v := nI 1) hx hb dMo_writeList_47 (by decide) ?_
        refine lv_isub hx hb dMo_writeList_48 ?_
        refine tp_i (show ((nI d) - (nI 1)) = (nI (d - 1)) from pk_sub (by omega)) ?_
        refine lv_i2l hx hb dMo_writeList_49 rfl ?_
        refine tp_l (show ((nI (d - 1)).toInt64) = (lN (d - 1)) from nI_l (by omega)) ?_
        refine kc_i (wc := []) (wr := [(qm, .inr (9, [.int cd, .int (nI n), .ref qmr, .int fm, .int (nI cm), .ref qmc, .int (nI s1), .ref qmb, .int (nI b1), .int (nI d), .ref qml])), (qmr, .inl (cJ, 1024, .inr (.inl xs))), (qml, .inl (cJ, 1024, .inr (.inl rs))), (qmb, .inl (cI, 10400, .inl m1))]) hP hD hS hA [] [0, 1, 2, 3] rfl rfl (by decide) (by decide) (by decide) (fun hPc hDc => va_runS (As := [.long (lN (d - 1))]) (rest := []) ⟨hx, hb, hml, hown, hts⟩ (m_digits l D cJ cB cI cF (lN (d - 1)) _) (va_cwS 1 hts (wsG_k tw_655 (wsG_k tw_656 (wsG_k tw_10 (wsG_c tw_657)))) rfl rfl rfl (by decide +kernel) ⟨Nat.le_of_ble_eq_true rfl, Nat.le_of_ble_eq_true rfl⟩) ⟨cf_blind, cf_pre hPc hK hDc hWd⟩ rfl rfl hl.1 rfl (lv_room (Nat.le_of_ble_eq_true rfl)) dMo_writeList_50 ⟨Nat.le_of_ble_eq_true rfl, Nat.le_of_ble_eq_true rfl⟩) (fun r u H locs hw hP hD hS => ?_)
        obtain ⟨rfl, -⟩ := hw
        have hP : va_P D vwCl [(qm, .inr (9, [.int cd, .int (nI n), .ref qmr, .int fm, .int (nI cm), .ref qmc, .int (nI s1), .ref qmb, .int (nI b1), .int (nI d), .ref qml])), (qmr, .inl (cJ, 1024, .inr (.inl xs))), (qml, .inl (cJ, 1024, .inr (.inl rs))), (qmb, .inl (cI, 10400, .inl m1))] H := hP
        have hD : va_D A [(qm, .inr (9, [.int cd, .int (nI n), .ref qmr, .int fm, .int (nI cm), .ref qmc, .int (nI s1), .ref qmb, .int (nI b1), .int (nI d), .ref qml])), (qmr, .inl (cJ, 1024, .inr (.inl xs))), (qml, .inl (cJ, 1024, .inr (.inl rs))), (qmb, .inl (cI, 10400, .inl m1))] := hD
        refine tp_i (show (nI (bln (uN (lN (d - 1))))) = (nI (bln (d - 1))) from congrArg (fun z => nI (bln z)) (uN_lN (by omega))) ?_
        obtain ⟨wd, hwd⟩ : ∃ z, z = bln (d - 1) := ⟨_, rfl⟩
        have hw1 : wd ≤ 10 := by rw [hwd]; exact bln_d (by omega)
        refine tp_i (show (nI (bln (d - 1))) = (nI wd) from congrArg nI hwd.symm) ?_
        refine lv_istore_n (lv' := [(1, .int (nI wd)), (0, .ref qm)]) hx hb dMo_writeList_53 rfl hl (by decide) rfl (fun ls hl => ?_)
        refine lv_iconst (v := nI 0) hx hb dMo_writeList_54 (by decide) ?_
        refine lv_istore_n (lv' := [(2, .int (nI 0)), (1, .int (nI wd)), (0, .ref qm)]) hx hb dMo_writeList_55 rfl hl (by decide) rfl (fun ls hl => ?_)
        have lp2 : ∀ (k_lp2 : Nat) (i : Nat) (b_2 : Nat) (s3 : Nat) (b3 : Nat) (m3 : Nat → Int32) (B3 : Nat → Bool), (i ≤ n) → (b_2 = 16 + 64 * d + i * wd) → (s3 = (b_2 + 7) / 8) → (b3 = b_2 % 8) → (mB m3 b_2 B3) → (fld B3 0 16 (lN d)) → (∀ j, j < d → fld B3 (16 + 64 * j) 64 (rs j)) → (∀ j, j < i → fld B3 (16 + 64 * d + j * wd) wd (lN (pl j))) → (n - i < k_lp2) → ∀ (H : Heap) (locs : List Loc) (ls : Array Slot), va_P D vwCl [(qm, .inr (9, [.int cd, .int (nI n), .ref qmr, .int fm, .int (nI cm), .ref qmc, .int (nI s3), .ref qmb, .int (nI b3), .int (nI d), .ref qml])), (qmr, .inl (cJ, 1024, .inr (.inl xs))), (qml, .inl (cJ, 1024, .inr (.inl rs))), (qmb, .inl (cI, 10400, .inl m3))] H → va_D A [(qm, .inr (9, [.int cd, .int (nI n), .ref qmr, .int fm, .int (nI cm), .ref qmc, .int (nI s3), .ref qmb, .int (nI b3), .int (nI d), .ref qml])), (qmr, .inl (cJ, 1024, .inr (.inl xs))), (qml, .inl (cJ, 1024, .inr (.inl rs))), (qmb, .inl (cI, 10400, .inl m3))] → va_S A s.heap H locs → lv_has ls 3 [(0, .ref qm), (1, .int (nI wd)), (2, .int (nI i))] → W p l e ({ frames := 2, cells := 0, slots := 0, locals := 46 }) s m ([.ref qm].toArray) below meth c H locs (0) (0) Q (F0 m 56 ls []) := by
          intro k_lp2
          induction k_lp2 with
          | zero => intro i b_2 s3 b3 m3 B3 j1 j2 w1 w2 w3 j4 j5 j6 hfu; exact absurd hfu (by omega)
          | succ k_lp2 ih_lp2 =>
            intro i b_2 s3 b3 m3 B3 j1 j2 w1 w2 w3 j4 j5 j6 hfu H locs ls hP hD hS hl
            have hm : i * wd ≤ 1024 * 10 := Nat.mul_le_mul (by omega) hw1
            have hp1 := (hpl i).1
            refine lv_iload_n hx hb dMo_writeList_56 rfl (lv_at hl 2 rfl) ?_
            refine lv_aload_n hx hb dMo_writeList_57 rfl (lv_at hl 0 rfl) ?_
            refine va_get (D := D) (ci := 9) (v := .int (nI n)) (C := "ColumnFormsModel") (T := TMo) (N := 11) hx hb hts inMo hown hK hP 0 rfl rfl 1 (by decide) (hts _ tw_590) (fun _ h9 => h9) rfl dMo_writeList_58 ?_
            refine lv_icmp_ge (tgt := 86) hx hb dMo_writeList_61 (by decide) (fun c61 => ?_) (fun c61 => ?_)
            · have c61 : n ≤ i := (nI_leI (by omega) (by omega)).mp c61
              exact hret (b_2, s3, b3, m3, B3, d, rs) _ _ _ _ _ _ ⟨w1, w2, w3, by subst hwd; exact ⟨rs, d, pl, hI, fun i _ => hpl i, by have e : i = n := (by omega); rw [← e]; exact j2, j4, j5, fun j hj => j6 j (by omega)⟩, by show b_2 ≤ _; omega, trivial⟩ (hP.sub [0, 1, 2, 3] rfl) (hD.sub [0, 1, 2, 3] (by decide) rfl) hS (Nat.le_of_ble_eq_true rfl) (Nat.le_of_ble_eq_true rfl) dMo_writeList_86
            · have c61 : ¬ n ≤ i := fun h => c61 ((nI_leI (by omega) (by omega)).mpr h)
              refine lv_aload_n hx hb dMo_writeList_64 rfl (lv_at hl 0 rfl) ?_
              refine lv_aload_n hx hb dMo_writeList_65 rfl (lv_at hl 0 rfl) ?_
              refine lv_aload_n hx hb dMo_writeList_66 rfl (lv_at hl 0 rfl) ?_
              refine va_get (D := D) (ci := 9) (v := .ref qmr) (C := "ColumnFormsModel") (T := TMo) (N := 11) hx hb hts inMo hown hK hP 0 rfl rfl 2 (by decide) (hts _ tw_591) (fun _ h9 => h9) rfl dMo_writeList_67 ?_
              refine lv_iload_n hx hb dMo_writeList_70 rfl (lv_at hl 2 rfl) ?_
              refine va_lald hx hb hK hP 1 0 rfl rfl (vp_in_nI (by omega) (by omega)) dMo_writeList_71 ?_
              refine tp_l (show (xs (nI i).toNatClampNeg) = (xs i) from congrArg _ (nI_clamp (by omega))) ?_
              refine kc_i (wc := [(qm, .inr (9, [.int cd, .int (nI n), .ref qmr, .int fm, .int (nI cm), .ref qmc, .int (nI s3), .ref qmb, .int (nI b3), .int (nI d), .ref qml])), (qml, .inl (cJ, 1024, .inr (.inl rs)))]) (wr := [(qmr, .inl (cJ, 1024, .inr (.inl xs))), (qmb, .inl (cI, 10400, .inl m3))]) hP hD hS hA [0, 2] [1, 3] rfl rfl (by decide) (by decide) (by decide) (fun hPc hDc => va_runV (As := [.long (xs i)]) (rest := [.ref qm]) ⟨hx, hb, hml, hown, hts⟩ (m_place l D cJ cB cI cF qm cd n qmr fm cm qmc s3 qmb b3 d qml rs (xs i) (pl i) _ (by omega) (hpl i)) (cwV 1 hts (wsG_k tw_665 (wsG_k tw_667 (wsG_k tp_w15 (wsG_k tw_10 (wsG_c tw_668))))) rfl rfl rfl (by decide +kernel) ⟨Nat.le_of_ble_eq_true rfl, Nat.le_of_ble_eq_true rfl⟩) ⟨cf_blind, va_recv hK hPc (ci := 9) (q0 := 0) rfl rfl, cf_pre hPc hK hDc hWd⟩ rfl rfl hl.1 rfl (lv_room (Nat.le_of_ble_eq_true rfl)) dMo_writeList_72 ⟨Nat.le_of_ble_eq_true rfl, Nat.le_of_ble_eq_true rfl⟩) (fun r u H locs hw hP hD hS => ?_)
              obtain ⟨rfl, -⟩ := hw
              have hP : va_P D vwCl [(qmr, .inl (cJ, 1024, .inr (.inl xs))), (qmb, .inl (cI, 10400, .inl m3)), (qm, .inr (9, [.int cd, .int (nI n), .ref qmr, .int fm, .int (nI cm), .ref qmc, .int (nI s3), .ref qmb, .int (nI b3), .int (nI d), .ref qml])), (qml, .inl (cJ, 1024, .inr (.inl rs)))] H := hP
              have hD : va_D A [(qmr, .inl (cJ, 1024, .inr (.inl xs))), (qmb, .inl (cI, 10400, .inl m3)), (qm, .inr (9, [.int cd, .int (nI n), .ref qmr, .int fm, .int (nI cm), .ref qmc, .int (nI s3), .ref qmb, .int (nI b3), .int (nI d), .ref qml])), (qml, .inl (cJ, 1024, .inr (.inl rs)))] := hD
              refine lv_i2l hx hb dMo_writeList_75 rfl ?_
              refine tp_l (show ((nI (pl i)).toInt64) = (lN (pl i)) from nI_l (by omega)) ?_
              refine lv_iload_n hx hb dMo_writeList_76 rfl (lv_at hl 1 rfl) ?_
              refine kc_v (wc := [(qm, .inr (9, [.int cd, .int (nI n), .ref qmr, .int fm, .int (nI cm), .ref qmc, .int (nI s3), .ref qmb, .int (nI b3), .int (nI d), .ref qml])), (qmb, .inl (cI, 10400, .inl m3))]) (wr := [(qmr, .inl (cJ, 1024, .inr (.inl xs))), (qml, .inl (cJ, 1024, .inr (.inl rs)))]) hP hD hS hA [2, 1] [0, 3] rfl rfl (by decide) (by decide) (by decide) (fun hPc hDc => va_runV (As := [.long (lN (pl i)), .int (nI wd)]) (rest := []) ⟨hx, hb, hml, hown, hts⟩ (m_num l D cJ cB cI cF qm cd n qmr fm cm qmc s3 qmb b3 d qml m3 B3 b_2 (lN (pl i)) wd _ (w1) (w2) (w3) (by omega) (by omega)) (cwV 2 hts (wsG_k tw_693 (wsG_k tw_695 (wsG_k tp_w21 (wsG_k tw_10 (wsG_c tw_696))))) rfl rfl rfl (by decide +kernel) ⟨Nat.le_of_ble_eq_true rfl, Nat.le_of_ble_eq_true rfl⟩) ⟨cf_blind, va_recv hK hPc (ci := 9) (q0 := 0) rfl rfl, cf_pre hPc hK hDc hWd⟩ rfl rfl hl.1 rfl (lv_room (Nat.le_of_ble_eq_true rfl)) dMo_writeList_77 ⟨Nat.le_of_ble_eq_true rfl, Nat.le_of_ble_eq_true rfl⟩) (fun u H locs hw hP hD hS => ?_)
              obtain ⟨s2_4, b2_5, m2_6⟩ := u
              obtain ⟨z1, z2, z3, -⟩ := hw
              have z1 : s2_4 = (b_2 + wd + 7) / 8 := z1
              have z2 : b2_5 = (b_2 + wd) % 8 := z2
              have z3 : mB m2_6 (b_2 + wd) (bA B3 b_2 (lN (pl i)) wd) := z3
              have hP : va_P D vwCl [(qmr, .inl (cJ, 1024, .inr (.inl xs))), (qml, .inl (cJ, 1024, .inr (.inl rs))), (qm, .inr (9, [.int cd, .int (nI n), .ref qmr, .int fm, .int (nI cm), .ref qmc, .int (nI s2_4), .ref qmb, .int (nI b2_5), .int (nI d), .ref qml])), (qmb, .inl (cI, 10400, .inl m2_6))] H := hP
              have hD : va_D A [(qmr, .inl (cJ, 1024, .inr (.inl xs))), (qml, .inl (cJ, 1024, .inr (.inl rs))), (qm, .inr (9, [.int cd, .int (nI n), .ref qmr, .int fm, .int (nI cm), .ref qmc, .int (nI s2_4), .ref qmb, .int (nI b2_5), .int (nI d), .ref qml])), (qmb, .inl (cI, 10400, .inl m2_6))] := hD
              refine lv_iinc (v := nI (i + 1)) (lv' := [(2, .int (nI (i + 1))), (0, .ref qm), (1, .int (nI wd))]) hx hb dMo_writeList_80 hl (k := 2) rfl (by rw [show (Int32.ofInt 1) = nI 1 from by decide]; exact nI_add _ _) (by decide) rfl (fun ls hl => ?_)
              refine lv_goto (tgt := 56) hx hb dMo_writeList_83 (by decide) ?_
              exact ih_lp2 (i + 1) (b_2 + wd) s2_4 b2_5 m2_6 (bA B3 b_2 (lN (pl i)) wd) (by omega) (by rw [Nat.succ_mul i wd]; omega) (z1) (z2) (z3) (fld_keep j4 (by omega)) (fld_all (a := fun j => 16 + 64 * j) (wd := fun _ => 64) (vl := rs) j5 (fun j hj => by show 16 + 64 * j + 64 ≤ b_2; omega)) (fld_add (a := fun j => 16 + 64 * d + j * wd) (wd := fun _ => wd) (vl := fun j => lN (pl j)) j6 (fun j hj => by have := mul_lo (w := wd) hj; show 16 + 64 * d + j * wd + wd ≤ b_2; omega) (by show 16 + 64 * d + i * wd = b_2; omega) rfl rfl) (by omega) _ _ _ (hP.sub [2, 0, 1, 3] rfl) (hD.sub [2, 0, 1, 3] (by decide) rfl) hS (lv_sub hl [1, 2, 0] rfl)
        exact lp2 (n - 0 + 1) 0 bq s1 b1 m1 B1 (Nat.zero_le n) (by omega) (e1) (e2) (e3) (g4) (fun j hj => g5 j (by omega)) (fun j hj => absurd hj (by omega)) (by omega) _ _ _ (hP.sub [0, 1, 2, 3] rfl) (hD.sub [0, 1, 2, 3] (by decide) rfl) hS (lv_sub hl [2, 1, 0] rfl)
      · have c22 : ¬ d ≤ k := fun h => c22 ((nI_leI (by omega) (by omega)).mpr h)
        refine lv_aload_n hx hb dMo_writeList_25 rfl (lv_at hl 0 rfl) ?_
        refine lv_aload_n hx hb dMo_writeList_26 rfl (lv_at hl 0 rfl) ?_
        refine va_get (D := D) (ci := 9) (v := .ref qml) (C := "ColumnFormsModel") (T := TMo) (N := 11) hx hb hts inMo hown hK hP 0 rfl rfl 10 (by decide) (hts _ tw_599) (fun _ h9 => h9) rfl dMo_writeList_27 ?_
        refine lv_iload_n hx hb dMo_writeList_30 rfl (lv_at hl 1 rfl) ?_
        refine va_lald hx hb hK hP 2 0 rfl rfl (vp_in_nI (by omega) (by omega)) dMo_writeList_31 ?_
        refine tp_l (show (rs (nI k).toNatClampNeg) = (rs k) from congrArg _ (nI_clamp (by omega))) ?_
        refine lv_bipush (v := nI 64) hx hb dMo_writeList_32 (by decide) ?_
        refine kc_v (wc := [(qm, .inr (9, [.int cd, .int (nI n), .ref qmr, .int fm, .int (nI cm), .ref qmc, .int (nI s1), .ref qmb, .int (nI b1), .int (nI d), .ref qml])), (qmb, .inl (cI, 10400, .inl m1))]) (wr := [(qmr, .inl (cJ, 1024, .inr (.inl xs))), (qml, .inl (cJ, 1024, .inr (.inl rs)))]) hP hD hS hA [0, 3] [1, 2] rfl rfl (by decide) (by decide) (by decide) (fun hPc hDc => va_runV (As := [.long (rs k), .int (nI 64)]) (rest := []) ⟨hx, hb, hml, hown, hts⟩ (m_num l D cJ cB cI cF qm cd n qmr fm cm qmc s1 qmb b1 d qml m1 B1 bq (rs k) 64 _ (e1) (e2) (e3) (by omega) (by omega)) (cwV 2 hts (wsG_k tw_693 (wsG_k tw_695 (wsG_k tp_w21 (wsG_k tw_10 (wsG_c tw_696))))) rfl rfl rfl (by decide +kernel) ⟨Nat.le_of_ble_eq_true rfl, Nat.le_of_ble_eq_true rfl⟩) ⟨cf_blind, va_recv hK hPc (ci := 9) (q0 := 0) rfl rfl, cf_pre hPc hK hDc hWd⟩ rfl rfl hl.1 rfl (lv_room (Nat.le_of_ble_eq_true rfl)) dMo_writeList_34 ⟨Nat.le_of_ble_eq_true rfl, Nat.le_of_ble_eq_true rfl⟩) (fun u H locs hw hP hD hS => ?_)
        obtain ⟨s2_7, b2_8, m2_9⟩ := u
        obtain ⟨y1, y2, y3, -⟩ := hw
        have y1 : s2_7 = (bq + 64 + 7) / 8 := y1
        have y2 : b2_8 = (bq + 64) % 8 := y2
        have y3 : mB m2_9 (bq + 64) (bA B1 bq (rs k) 64) := y3
        have hP : va_P D vwCl [(qmr, .inl (cJ, 1024, .inr (.inl xs))), (qml, .inl (cJ, 1024, .inr (.inl rs))), (qm, .inr (9, [.int cd, .int (nI n), .ref qmr, .int fm, .int (nI cm), .ref qmc, .int (nI s2_7), .ref qmb, .int (nI b2_8), .int (nI d), .ref qml])), (qmb, .inl (cI, 10400, .inl m2_9))] H := hP
        have hD : va_D A [(qmr, .inl (cJ, 1024, .inr (.inl xs))), (qml, .inl (cJ, 1024, .inr (.inl rs))), (qm, .inr (9, [.int cd, .int (nI n), .ref qmr, .int fm, .int (nI cm), .ref qmc, .int (nI s2_7), .ref qmb, .int (nI b2_8), .int (nI d), .ref qml])), (qmb, .inl (cI, 10400, .inl m2_9))] := hD
        refine lv_iinc (v := nI (k + 1)) (lv' := [(1, .int (nI (k + 1))), (0, .ref qm)]) hx hb dMo_writeList_37 hl (k := 1) rfl (by rw [show (Int32.ofInt 1) = nI 1 from by decide]; exact nI_add _ _) (by decide) rfl (fun ls hl => ?_)
        refine lv_goto (tgt := 17) hx hb dMo_writeList_40 (by decide) ?_
        exact ih_lp1 (k + 1) (bq + 64) s2_7 b2_8 m2_9 (bA B1 bq (rs k) 64) (by omega) (by omega) (y1) (y2) (y3) (fld_keep g4 (by omega)) (fld_add (a := fun j => 16 + 64 * j) (wd := fun _ => 64) (vl := rs) g5 (fun j hj => by show 16 + 64 * j + 64 ≤ bq; omega) (by show 16 + 64 * k = bq; omega) rfl rfl) (by omega) _ _ _ (hP.sub [2, 0, 1, 3] rfl) (hD.sub [2, 0, 1, 3] (by decide) rfl) hS (lv_sub hl [1, 0] rfl)
  exact lp1 (d - 0 + 1) 0 (0 + 16) s2_1 b2_2 m2_3 (bA (fun _ => false) 0 (lN d) 16) (Nat.zero_le d) (rfl) (x1) (x2) (x3) (bA_fld _ _ _ _) (fun j hj => absurd hj (by omega)) (by omega) _ _ _ (hP.sub [2, 0, 1, 3] rfl) (hD.sub [2, 0, 1, 3] (by decide) rfl) hS (lv_sub hl [1, 0] rfl)

set_option maxHeartbeats 4000000 in
set_option maxRecDepth 100000 in
theorem m_wSteps (l : Launch) (D : va_G) (cJ cB cI cF : ClassId) (qm : Nat) (cd : Int32) (n : Nat) (qmr : Nat) (fm : Int32) (cm : Nat) (qmc : Nat) (qmb : Nat) (dm : Nat) (qml : Nat) (xs : Nat → Int64) (mm : Nat → Int32) (sz : Nat) (hn0 : 0 < n) (hn : n ≤ 1024) : Met l yMo_writeSteps (Cond.code yMo_writeSteps cMo_writeSteps 5 none :: wsG) ({ frames := 2, cells := 0, slots := 0, locals := 45 }) (va_Pc [.ref qm] (cfPre D (cfT cJ cB cI cF) [(qm, .inr (9, [.int cd, .int (nI n), .ref qmr, .int fm, .int (nI cm), .ref qmc, .int (nI 0), .ref qmb, .int (nI 0), .int (nI dm), .ref qml])), (qmr, .inl (cJ, 1024, .inr (.inl xs))), (qmb, .inl (cI, 10400, .inl mm))] sz)) (va_Qv (fun (u : Nat × Nat × Nat × (Nat → Int32) × (Nat → Bool)) => (u.2.1 = (u.1 + 7) / 8) ∧ (u.2.2.1 = u.1 % 8) ∧ (mB u.2.2.2.1 u.1 u.2.2.2.2) ∧ (lS xs n u.1 u.2.2.2.2) ∧ (u.1 ≤ 81936) ∧ True) (fun u t => cfPost D ((fun (u : Nat × Nat × Nat × (Nat → Int32) × (Nat → Bool)) => [(qm, .inr (9, [.int cd, .int (nI n), .ref qmr, .int fm, .int (nI cm), .ref qmc, .int (nI u.2.1), .ref qmb, .int (nI u.2.2.1), .int (nI dm), .ref qml])), (qmr, .inl (cJ, 1024, .inr (.inl xs))), (qmb, .inl (cI, 10400, .inl u.2.2.2.1))]) u) (va_A [(qm, .inr (9, [.int cd, .int (nI n), .ref qmr, .int fm, .int (nI cm), .ref qmc, .int (nI 0), .ref qmb, .int (nI 0), .int (nI dm), .ref qml])), (qmr, .inl (cJ, 1024, .inr (.inl xs))), (qmb, .inl (cI, 10400, .inl mm))] sz) t) (va_A [(qm, .inr (9, [.int cd, .int (nI n), .ref qmr, .int fm, .int (nI cm), .ref qmc, .int (nI 0), .ref qmb, .int (nI 0), .int (nI dm), .ref qml])), (qmr, .inl (cJ, 1024, .inr (.inl xs))), (qmb, .inl (cI, 10400, .inl mm))] sz)) 0 0 (va_A [(qm, .inr (9, [.int cd, .int (nI n), .ref qmr, .int fm, .int (nI cm), .ref qmc, .int (nI 0), .ref qmb, .int (nI 0), .int (nI dm), .ref qml])), (qmr, .inl (cJ, 1024, .inr (.inl xs))), (qmb, .inl (cI, 10400, .inl mm))] sz) := by
  refine met_v (cc := cMo_writeSteps) (maxL := 5) (S := Nat × Nat × Nat × (Nat → Int32) × (Nat → Bool)) (D := D) (wO := fun (u : Nat × Nat × Nat × (Nat → Int32) × (Nat → Bool)) => [(qm, .inr (9, [.int cd, .int (nI n), .ref qmr, .int fm, .int (nI cm), .ref qmc, .int (nI u.2.1), .ref qmb, .int (nI u.2.2.1), .int (nI dm), .ref qml])), (qmr, .inl (cJ, 1024, .inr (.inl xs))), (qmb, .inl (cI, 10400, .inl u.2.2.2.1))]) (by decide) (Nat.le_of_ble_eq_true rfl) ?_
  intro p e s m below meth c hx hb hml hown hts hlocks hin hWd A hA hsz hP hK hD hS Q hret ls hl
  have hown : s.vm.findClass "ColumnFormsModel" = some m.cls := hown
  have hl : lv_has ls 5 [(0, .ref qm)] := hl
  have hP : va_P D vwCl [(qm, .inr (9, [.int cd, .int (nI n), .ref qmr, .int fm, .int (nI cm), .ref qmc, .int (nI 0), .ref qmb, .int (nI 0), .int (nI dm), .ref qml])), (qmr, .inl (cJ, 1024, .inr (.inl xs))), (qmb, .inl (cI, 10400, .inl mm))] s.heap := hP
  refine lv_aload_n hx hb dMo_writeSteps_0 rfl (lv_at hl 0 rfl) ?_
  refine kc_l (wc := [(qm, .inr (9, [.int cd, .int (nI n), .ref qmr, .int fm, .int (nI cm), .ref qmc, .int (nI 0), .ref qmb, .int (nI 0), .int (nI dm), .ref qml])), (qmr, .inl (cJ, 1024, .inr (.inl xs)))]) (wr := [(qmb, .inl (cI, 10400, .inl mm))]) hP hD hS hA [0, 1] [2] rfl rfl (by decide) (by decide) (by decide) (fun hPc hDc => va_runV (As := []) (rest := []) ⟨hx, hb, hml, hown, hts⟩ (m_lstep l D cJ cB cI cF qm cd n qmr fm cm qmc 0 qmb 0 dm qml xs _ (hn0) (hn)) (cwV 0 hts (wsG_k tw_681 (wsG_k tw_683 (wsG_k tp_w19 (wsG_k tw_10 (wsG_c tw_684))))) rfl rfl rfl (by decide +kernel) ⟨Nat.le_of_ble_eq_true rfl, Nat.le_of_ble_eq_true rfl⟩) ⟨cf_blind, va_recv hK hPc (ci := 9) (q0 := 0) rfl rfl, cf_pre hPc hK hDc hWd⟩ rfl rfl hl.1 rfl (lv_room (Nat.le_of_ble_eq_true rfl)) dMo_writeSteps_1 ⟨Nat.le_of_ble_eq_true rfl, Nat.le_of_ble_eq_true rfl⟩) (fun r u H locs hw hP hD hS => ?_)
  obtain ⟨rfl, -⟩ := hw
  have hP : va_P D vwCl [(qmb, .inl (cI, 10400, .inl mm)), (qm, .inr (9, [.int cd, .int (nI n), .ref qmr, .int fm, .int (nI cm), .ref qmc, .int (nI 0), .ref qmb, .int (nI 0), .int (nI dm), .ref qml])), (qmr, .inl (cJ, 1024, .inr (.inl xs)))] H := hP
  have hD : va_D A [(qmb, .inl (cI, 10400, .inl mm)), (qm, .inr (9, [.int cd, .int (nI n), .ref qmr, .int fm, .int (nI cm), .ref qmc, .int (nI 0), .ref qmb, .int (nI 0), .int (nI dm), .ref qml])), (qmr, .inl (cJ, 1024, .inr (.inl xs)))] := hD
  refine lv_lstore_n (lv' := [(1, .long (sLo xs n)), (0, .ref qm)]) hx hb dMo_writeSteps_4 rfl hl (by decide) rfl (fun ls hl => ?_)
  refine lv_aload_n hx hb dMo_writeSteps_5 rfl (lv_at hl 1 rfl) ?_
  refine kc_l (wc := [(qm, .inr (9, [.int cd, .int (nI n), .ref qmr, .int fm, .int (nI cm), .ref qmc, .int (nI 0), .ref qmb, .int (nI 0), .int (nI dm), .ref qml])), (qmr, .inl (cJ, 1024, .inr (.inl xs)))]) (wr := [(qmb, .inl (cI, 10400, .inl mm))]) hP hD hS hA [1, 2] [0] rfl rfl (by decide) (by decide) (by decide) (fun hPc hDc => va_runV (As := []) (rest := []) ⟨hx, hb, hml, hown, hts⟩ (m_gstep l D cJ cB cI cF qm cd n qmr fm cm qmc 0 qmb 0 dm qml xs _ (hn0) (hn)) (cwV 0 hts (wsG_k tw_673 (wsG_k tw_675 (wsG_k tp_w17 (wsG_k tw_10 (wsG_c tw_676))))) rfl rfl rfl (by decide +kernel) ⟨Nat.le_of_ble_eq_true rfl, Nat.le_of_ble_eq_true rfl⟩) ⟨cf_blind, va_recv hK hPc (ci := 9) (q0 := 0) rfl rfl, cf_pre hPc hK hDc hWd⟩ rfl rfl hl.1 rfl (lv_room (Nat.le_of_ble_eq_true rfl)) dMo_writeSteps_6 ⟨Nat.le_of_ble_eq_true rfl, Nat.le_of_ble_eq_true rfl⟩) (fun r u H locs hw hP hD hS => ?_)
  obtain ⟨rfl, -⟩ := hw
  have hP : va_P D vwCl [(qmb, .inl (cI, 10400, .inl mm)), (qm, .inr (9, [.int cd, .int (nI n), .ref qmr, .int fm, .int (nI cm), .ref qmc, .int (nI 0), .ref qmb, .int (nI 0), .int (nI dm), .ref qml])), (qmr, .inl (cJ, 1024, .inr (.inl xs)))] H := hP
  have hD : va_D A [(qmb, .inl (cI, 10400, .inl mm)), (qm, .inr (9, [.int cd, .int (nI n), .ref qmr, .int fm, .int (nI cm), .ref qmc, .int (nI 0), .ref qmb, .int (nI 0), .int (nI dm), .ref qml])), (qmr, .inl (cJ, 1024, .inr (.inl xs)))] := hD
  refine lv_lload_n hx hb dMo_writeSteps_9 rfl (lv_at hl 0 rfl) ?_
  refine lv_lsub hx hb dMo_writeSteps_10 ?_
  refine kc_i (wc := []) (wr := [(qmb, .inl (cI, 10400, .inl mm)), (qm, .inr (9, [.int cd, .int (nI n), .ref qmr, .int fm, .int (nI cm), .ref qmc, .int (nI 0), .ref qmb, .int (nI 0), .int (nI dm), .ref qml])), (qmr, .inl (cJ, 1024, .inr (.inl xs)))]) hP hD hS hA [] [0, 1, 2] rfl rfl (by decide) (by decide) (by decide) (fun hPc hDc => va_runS (As := [.long ((sHi xs n) - (sLo xs n))]) (rest := []) ⟨hx, hb, hml, hown, hts⟩ (m_digits l D cJ cB cI cF ((sHi xs n) - (sLo xs n)) _) (va_cwS 1 hts (wsG_k tw_655 (wsG_k tw_656 (wsG_k tw_10 (wsG_c tw_657)))) rfl rfl rfl (by decide +kernel) ⟨Nat.le_of_ble_eq_true rfl, Nat.le_of_ble_eq_true rfl⟩) ⟨cf_blind, cf_pre hPc hK hDc hWd⟩ rfl rfl hl.1 rfl (lv_room (Nat.le_of_ble_eq_true rfl)) dMo_writeSteps_11 ⟨Nat.le_of_ble_eq_true rfl, Nat.le_of_ble_eq_true rfl⟩) (fun r u H locs hw hP hD hS => ?_)
  obtain ⟨rfl, -⟩ := hw
  have hP : va_P D vwCl [(qmb, .inl (cI, 10400, .inl mm)), (qm, .inr (9, [.int cd, .int (nI n), .ref qmr, .int fm, .int (nI cm), .ref qmc, .int (nI 0), .ref qmb, .int (nI 0), .int (nI dm), .ref qml])), (qmr, .inl (cJ, 1024, .inr (.inl xs)))] H := hP
  have hD : va_D A [(qmb, .inl (cI, 10400, .inl mm)), (qm, .inr (9, [.int cd, .int (nI n), .ref qmr, .int fm, .int (nI cm), .ref qmc, .int (nI 0), .ref qmb, .int (nI 0), .int (nI dm), .ref qml])), (qmr, .inl (cJ, 1024, .inr (.inl xs)))] := hD
  obtain ⟨wd, hwd⟩ : ∃ z, z = bln (uN ((sHi xs n) - (sLo xs n))) := ⟨_, rfl⟩
  have hw1 : wd ≤ 64 := by rw [hwd]; exact bln64 _
  refine tp_i (show (nI (bln (uN ((sHi xs n) - (sLo xs n))))) = (nI wd) from congrArg nI hwd.symm) ?_
  refine lv_istore_n (lv' := [(3, .int (nI wd)), (1, .long (sLo xs n)), (0, .ref qm)]) hx hb dMo_writeSteps_14 rfl hl (by decide) rfl (fun ls hl => ?_)
  refine lv_aload_n hx hb dMo_writeSteps_15 rfl (lv_at hl 2 rfl) ?_
  refine lv_aload_n hx hb dMo_writeSteps_16 rfl (lv_at hl 2 rfl) ?_
  refine va_get (D := D) (ci := 9) (v := .ref qmr) (C := "ColumnFormsModel") (T := TMo) (N := 11) hx hb hts inMo hown hK hP 1 rfl rfl 2 (by decide) (hts _ tw_591) (fun _ h9 => h9) rfl dMo_writeSteps_17 ?_
  refine lv_iconst (v := nI 0) hx hb dMo_writeSteps_20 (by decide) ?_
  refine va_lald hx hb hK hP 2 0 rfl rfl (vp_in_nI (by omega) (by omega)) dMo_writeSteps_21 ?_
  refine tp_l (show (xs (nI 0).toNatClampNeg) = (xs 0) from congrArg _ (nI_clamp (by omega))) ?_
  refine lv_bipush (v := nI 64) hx hb dMo_writeSteps_22 (by decide) ?_
  refine kc_v (wc := [(qm, .inr (9, [.int cd, .int (nI n), .ref qmr, .int fm, .int (nI cm), .ref qmc, .int (nI 0), .ref qmb, .int (nI 0), .int (nI dm), .ref qml])), (qmb, .inl (cI, 10400, .inl mm))]) (wr := [(qmr, .inl (cJ, 1024, .inr (.inl xs)))]) hP hD hS hA [1, 0] [2] rfl rfl (by decide) (by decide) (by decide) (fun hPc hDc => va_runV (As := [.long (xs 0), .int (nI 64)]) (rest := []) ⟨hx, hb, hml, hown, hts⟩ (m_num l D cJ cB cI cF qm cd n qmr fm cm qmc 0 qmb 0 dm qml mm (fun _ => false) 0 (xs 0) 64 _ (rfl) (rfl) (mB_0 mm _) (by omega) (by omega)) (cwV 2 hts (wsG_k tw_693 (wsG_k tw_695 (wsG_k tp_w21 (wsG_k tw_10 (wsG_c tw_696))))) rfl rfl rfl (by decide +kernel) ⟨Nat.le_of_ble_eq_true rfl, Nat.le_of_ble_eq_true rfl⟩) ⟨cf_blind, va_recv hK hPc (ci := 9) (q0 := 0) rfl rfl, cf_pre hPc hK hDc hWd⟩ rfl rfl hl.1 rfl (lv_room (Nat.le_of_ble_eq_true rfl)) dMo_writeSteps_24 ⟨Nat.le_of_ble_eq_true rfl, Nat.le_of_ble_eq_true rfl⟩) (fun u H locs hw hP hD hS => ?_)
  obtain ⟨s2_1, b2_2, m2_3⟩ := u
  obtain ⟨x1, x2, x3, -⟩ := hw
  have x1 : s2_1 = (0 + 64 + 7) / 8 := x1
  have x2 : b2_2 = (0 + 64) % 8 := x2
  have x3 : mB m2_3 (0 + 64) (bA (fun _ => false) 0 (xs 0) 64) := x3
  have hP : va_P D vwCl [(qmr, .inl (cJ, 1024, .inr (.inl xs))), (qm, .inr (9, [.int cd, .int (nI n), .ref qmr, .int fm, .int (nI cm), .ref qmc, .int (nI s2_1), .ref qmb, .int (nI b2_2), .int (nI dm), .ref qml])), (qmb, .inl (cI, 10400, .inl m2_3))] H := hP
  have hD : va_D A [(qmr, .inl (cJ, 1024, .inr (.inl xs))), (qm, .inr (9, [.int cd, .int (nI n), .ref qmr, .int fm, .int (nI cm), .ref qmc, .int (nI s2_1), .ref qmb, .int (nI b2_2), .int (nI dm), .ref qml])), (qmb, .inl (cI, 10400, .inl m2_3))] := hD
  refine lv_aload_n hx hb dMo_writeSteps_27 rfl (lv_at hl 2 rfl) ?_
  refine lv_lload_n hx hb dMo_writeSteps_28 rfl (lv_at hl 1 rfl) ?_
  refine lv_bipush (v := nI 64) hx hb dMo_writeSteps_29 (by decide) ?_
  refine kc_v (wc := [(qm, .inr (9, [.int cd, .int (nI n), .ref qmr, .int fm, .int (nI cm), .ref qmc, .int (nI s2_1), .ref qmb, .int (nI b2_2), .int (nI dm), .ref qml])), (qmb, .inl (cI, 10400, .inl m2_3))]) (wr := [(qmr, .inl (cJ, 1024, .inr (.inl xs)))]) hP hD hS hA [1, 2] [0] rfl rfl (by decide) (by decide) (by decide) (fun hPc hDc => va_runV (As := [.long (sLo xs n), .int (nI 64)]) (rest := []) ⟨hx, hb, hml, hown, hts⟩ (m_num l D cJ cB cI cF qm cd n qmr fm cm qmc s2_1 qmb b2_2 dm qml m2_3 (bA (fun _ => false) 0 (xs 0) 64) (0 + 64) (sLo xs n) 64 _ (x1) (x2) (x3) (by omega) (by omega)) (cwV 2 hts (wsG_k tw_693 (wsG_k tw_695 (wsG_k tp_w21 (wsG_k tw_10 (wsG_c tw_696))))) rfl rfl rfl (by decide +kernel) ⟨Nat.le_of_ble_eq_true rfl, Nat.le_of_ble_eq_true rfl⟩) ⟨cf_blind, va_recv hK hPc (ci := 9) (q0 := 0) rfl rfl, cf_pre hPc hK hDc hWd⟩ rfl rfl hl.1 rfl (lv_room (Nat.le_of_ble_eq_true rfl)) dMo_writeSteps_31 ⟨Nat.le_of_ble_eq_true rfl, Nat.le_of_ble_eq_true rfl⟩) (fun u H locs hw hP hD hS => ?_)
  obtain ⟨s2_4, b2_5, m2_6⟩ := u
  obtain ⟨y1, y2, y3, -⟩ := hw
  have y1 : s2_4 = ((0 + 64) + 64 + 7) / 8 := y1
  have y2 : b2_5 = ((0 + 64) + 64) % 8 := y2
  have y3 : mB m2_6 ((0 + 64) + 64) (bA (bA (fun _ => false) 0 (xs 0) 64) (0 + 64) (sLo xs n) 64) := y3
  have hP : va_P D vwCl [(qmr, .inl (cJ, 1024, .inr (.inl xs))), (qm, .inr (9, [.int cd, .int (nI n), .ref qmr, .int fm, .int (nI cm), .ref qmc, .int (nI s2_4), .ref qmb, .int (nI b2_5), .int (nI dm), .ref qml])), (qmb, .inl (cI, 10400, .inl m2_6))] H := hP
  have hD : va_D A [(qmr, .inl (cJ, 1024, .inr (.inl xs))), (qm, .inr (9, [.int cd, .int (nI n), .ref qmr, .int fm, .int (nI cm), .ref qmc, .int (nI s2_4), .ref qmb, .int (nI b2_5), .int (nI dm), .ref qml])), (qmb, .inl (cI, 10400, .inl m2_6))] := hD
  refine lv_aload_n hx hb dMo_writeSteps_34 rfl (lv_at hl 2 rfl) ?_
  refine lv_iload_n hx hb dMo_writeSteps_35 rfl (lv_at hl 0 rfl) ?_
  refine lv_i2l hx hb dMo_writeSteps_36 rfl ?_
  refine tp_l (show ((nI wd).toInt64) = (lN wd) from nI_l (by omega)) ?_
  refine lv_bipush (v := nI 8) hx hb dMo_writeSteps_37 (by decide) ?_
  refine kc_v (wc := [(qm, .inr (9, [.int cd, .int (nI n), .ref qmr, .int fm, .int (nI cm), .ref qmc, .int (nI s2_4), .ref qmb, .int (nI b2_5), .int (nI dm), .ref qml])), (qmb, .inl (cI, 10400, .inl m2_6))]) (wr := [(qmr, .inl (cJ, 1024, .inr (.inl xs)))]) hP hD hS hA [1, 2] [0] rfl rfl (by decide) (by decide) (by decide) (fun hPc hDc => va_runV (As := [.long (lN wd), .int (nI 8)]) (rest := []) ⟨hx, hb, hml, hown, hts⟩ (m_num l D cJ cB cI cF qm cd n qmr fm cm qmc s2_4 qmb b2_5 dm qml m2_6 (bA (bA (fun _ => false) 0 (xs 0) 64) (0 + 64) (sLo xs n) 64) (0 + 64 + 64) (lN wd) 8 _ (y1) (y2) (y3) (by omega) (by omega)) (cwV 2 hts (wsG_k tw_693 (wsG_k tw_695 (wsG_k tp_w21 (wsG_k tw_10 (wsG_c tw_696))))) rfl rfl rfl (by decide +kernel) ⟨Nat.le_of_ble_eq_true rfl, Nat.le_of_ble_eq_true rfl⟩) ⟨cf_blind, va_recv hK hPc (ci := 9) (q0 := 0) rfl rfl, cf_pre hPc hK hDc hWd⟩ rfl rfl hl.1 rfl (lv_room (Nat.le_of_ble_eq_true rfl)) dMo_writeSteps_39 ⟨Nat.le_of_ble_eq_true rfl, Nat.le_of_ble_eq_true rfl⟩) (fun u H locs hw hP hD hS => ?_)
  obtain ⟨s2_7, b2_8, m2_9⟩ := u
  obtain ⟨t1, t2, t3, -⟩ := hw
  have t1 : s2_7 = ((0 + 64 + 64) + 8 + 7) / 8 := t1
  have t2 : b2_8 = ((0 + 64 + 64) + 8) % 8 := t2
  have t3 : mB m2_9 ((0 + 64 + 64) + 8) (bA (bA (bA (fun _ => false) 0 (xs 0) 64) (0 + 64) (sLo xs n) 64) (0 + 64 + 64) (lN wd) 8) := t3
  have hP : va_P D vwCl [(qmr, .inl (cJ, 1024, .inr (.inl xs))), (qm, .inr (9, [.int cd, .int (nI n), .ref qmr, .int fm, .int (nI cm), .ref qmc, .int (nI s2_7), .ref qmb, .int (nI b2_8), .int (nI dm), .ref qml])), (qmb, .inl (cI, 10400, .inl m2_9))] H := hP
  have hD : va_D A [(qmr, .inl (cJ, 1024, .inr (.inl xs))), (qm, .inr (9, [.int cd, .int (nI n), .ref qmr, .int fm, .int (nI cm), .ref qmc, .int (nI s2_7), .ref qmb, .int (nI b2_8), .int (nI dm), .ref qml])), (qmb, .inl (cI, 10400, .inl m2_9))] := hD
  refine lv_iconst (v := nI 1) hx hb dMo_writeSteps_42 (by decide) ?_
  refine lv_istore (lv' := [(4, .int (nI 1)), (3, .int (nI wd)), (1, .long (sLo xs n)), (0, .ref qm)]) hx hb dMo_writeSteps_43 hl (by decide) rfl (fun ls hl => ?_)
  have lp : ∀ (k_lp : Nat) (i : Nat) (bq : Nat) (s1 : Nat) (b1 : Nat) (m1 : Nat → Int32) (B1 : Nat → Bool), (1 ≤ i) → (i ≤ n) → (bq = 136 + (i - 1) * wd) → (s1 = (bq + 7) / 8) → (b1 = bq % 8) → (mB m1 bq B1) → (fld B1 0 64 (xs 0)) → (fld B1 64 64 (sLo xs n)) → (fld B1 128 8 (lN wd)) → (∀ j, j < i - 1 → fld B1 (136 + j * wd) wd (xs (j + 1) - xs j - sLo xs n)) → (n - i < k_lp) → ∀ (H : Heap) (locs : List Loc) (ls : Array Slot), va_P D vwCl [(qm, .inr (9, [.int cd, .int (nI n), .ref qmr, .int fm, .int (nI cm), .ref qmc, .int (nI s1), .ref qmb, .int (nI b1), .int (nI dm), .ref qml])), (qmr, .inl (cJ, 1024, .inr (.inl xs))), (qmb, .inl (cI, 10400, .inl m1))] H → va_D A [(qm, .inr (9, [.int cd, .int (nI n), .ref qmr, .int fm, .int (nI cm), .ref qmc, .int (nI s1), .ref qmb, .int (nI b1), .int (nI dm), .ref qml])), (qmr, .inl (cJ, 1024, .inr (.inl xs))), (qmb, .inl (cI, 10400, .inl m1))] → va_S A s.heap H locs → lv_has ls 5 [(0, .ref qm), (1, .long (sLo xs n)), (3, .int (nI wd)), (4, .int (nI i))] → W p l e ({ frames := 2, cells := 0, slots := 0, locals := 45 }) s m ([.ref qm].toArray) below meth c H locs (0) (0) Q (F0 m 45 ls []) := by
    intro k_lp
    induction k_lp with
    | zero => intro i bq s1 b1 m1 B1 g0 g1 g2 e1 e2 e3 g4 g5 g55 g6 hfu; exact absurd hfu (by omega)
    | succ k_lp ih_lp =>
      intro i bq s1 b1 m1 B1 g0 g1 g2 e1 e2 e3 g4 g5 g55 g6 hfu H locs ls hP hD hS hl
      have hm : (i - 1) * wd ≤ 1024 * 64 := Nat.mul_le_mul (by omega) hw1
      refine lv_iload hx hb dMo_writeSteps_45 (lv_at hl 3 rfl) ?_
      refine lv_aload_n hx hb dMo_writeSteps_47 rfl (lv_at hl 0 rfl) ?_
      refine va_get (D := D) (ci := 9) (v := .int (nI n)) (C := "ColumnFormsModel") (T := TMo) (N := 11) hx hb hts inMo hown hK hP 0 rfl rfl 1 (by decide) (hts _ tw_590) (fun _ h9 => h9) rfl dMo_writeSteps_48 ?_
      refine lv_icmp_ge (tgt := 73) hx hb dMo_writeSteps_51 (by decide) (fun c51 => ?_) (fun c51 => ?_)
      · have c51 : n ≤ i := (nI_leI (by omega) (by omega)).mp c51
        exact hret (bq, s1, b1, m1, B1) _ _ _ _ _ _ ⟨e1, e2, e3, lS_of rfl rfl hwd (by have e : i = n := (by omega); rw [← e]; exact g2) g4 g5 g55 (fun j hj => g6 j (by omega)), by show bq ≤ _; omega, trivial⟩ (hP.sub [0, 1, 2] rfl) (hD.sub [0, 1, 2] (by decide) rfl) hS (Nat.le_of_ble_eq_true rfl) (Nat.le_of_ble_eq_true rfl) dMo_writeSteps_73
      · have c51 : ¬ n ≤ i := fun h => c51 ((nI_leI (by omega) (by omega)).mpr h)
        refine lv_aload_n hx hb dMo_writeSteps_54 rfl (lv_at hl 0 rfl) ?_
        refine lv_aload_n hx hb dMo_writeSteps_55 rfl (lv_at hl 0 rfl) ?_
        refine lv_iload hx hb dMo_writeSteps_56 (lv_at hl 3 rfl) ?_
        refine kc_l (wc := [(qm, .inr (9, [.int cd, .int (nI n), .ref qmr, .int fm, .int (nI cm), .ref qmc, .int (nI s1), .ref qmb, .int (nI b1), .int (nI dm), .ref qml])), (qmr, .inl (cJ, 1024, .inr (.inl xs)))]) (wr := [(qmb, .inl (cI, 10400, .inl m1))]) hP hD hS hA [0, 1] [2] rfl rfl (by decide) (by decide) (by decide) (fun hPc hDc => va_runV (As := [.int (nI i)]) (rest := [.ref qm]) ⟨hx, hb, hml, hown, hts⟩ (m_step l D cJ cB cI cF qm cd n qmr fm cm qmc s1 qmb b1 dm qml xs i _ (by omega) (by omega)) (cwV 1 hts (wsG_k tw_677 (wsG_k tw_679 (wsG_k tp_w18 (wsG_k tw_10 (wsG_c tw_680))))) rfl rfl rfl (by decide +kernel) ⟨Nat.le_of_ble_eq_true rfl, Nat.le_of_ble_eq_true rfl⟩) ⟨cf_blind, va_recv hK hPc (ci := 9) (q0 := 0) rfl rfl, cf_pre hPc hK hDc hWd⟩ rfl rfl hl.1 rfl (lv_room (Nat.le_of_ble_eq_true rfl)) dMo_writeSteps_58 ⟨Nat.le_of_ble_eq_true rfl, Nat.le_of_ble_eq_true rfl⟩) (fun r u H locs hw hP hD hS => ?_)
        obtain ⟨rfl, -⟩ := hw
        have hP : va_P D vwCl [(qmb, .inl (cI, 10400, .inl m1)), (qm, .inr (9, [.int cd, .int (nI n), .ref qmr, .int fm, .int (nI cm), .ref qmc, .int (nI s1), .ref qmb, .int (nI b1), .int (nI dm), .ref qml])), (qmr, .inl (cJ, 1024, .inr (.inl xs)))] H := hP
        have hD : va_D A [(qmb, .inl (cI, 10400, .inl m1)), (qm, .inr (9, [.int cd, .int (nI n), .ref qmr, .int fm, .int (nI cm), .ref qmc, .int (nI s1), .ref qmb, .int (nI b1), .int (nI dm), .ref qml])), (qmr, .inl (cJ, 1024, .inr (.inl xs)))] := hD
        refine lv_lload_n hx hb dMo_writeSteps_61 rfl (lv_at hl 1 rfl) ?_
        refine lv_lsub hx hb dMo_writeSteps_62 ?_
        refine lv_iload_n hx hb dMo_writeSteps_63 rfl (lv_at hl 2 rfl) ?_
        refine kc_v (wc := [(qm, .inr (9, [.int cd, .int (nI n), .ref qmr, .int fm, .int (nI cm), .ref qmc, .int (nI s1), .ref qmb, .int (nI b1), .int (nI dm), .ref qml])), (qmb, .inl (cI, 10400, .inl m1))]) (wr := [(qmr, .inl (cJ, 1024, .inr (.inl xs)))]) hP hD hS hA [1, 0] [2] rfl rfl (by decide) (by decide) (by decide) (fun hPc hDc => va_runV (As := [.long ((xs i - xs (i - 1)) - (sLo xs n)), .int (nI wd)]) (rest := []) ⟨hx, hb, hml, hown, hts⟩ (m_num l D cJ cB cI cF qm cd n qmr fm cm qmc s1 qmb b1 dm qml m1 B1 bq ((xs i - xs (i - 1)) - (sLo xs n)) wd _ (e1) (e2) (e3) (hw1) (by omega)) (cwV 2 hts (wsG_k tw_693 (wsG_k tw_695 (wsG_k tp_w21 (wsG_k tw_10 (wsG_c tw_696))))) rfl rfl rfl (by decide +kernel) ⟨Nat.le_of_ble_eq_true rfl, Nat.le_of_ble_eq_true rfl⟩) ⟨cf_blind, va_recv hK hPc (ci := 9) (q0 := 0) rfl rfl, cf_pre hPc hK hDc hWd⟩ rfl rfl hl.1 rfl (lv_room (Nat.le_of_ble_eq_true rfl)) dMo_writeSteps_64 ⟨Nat.le_of_ble_eq_true rfl, Nat.le_of_ble_eq_true rfl⟩) (fun u H locs hw hP hD hS => ?_)
        obtain ⟨s2_10, b2_11, m2_12⟩ := u
        obtain ⟨z1, z2, z3, -⟩ := hw
        have z1 : s2_10 = (bq + wd + 7) / 8 := z1
        have z2 : b2_11 = (bq + wd) % 8 := z2
        have z3 : mB m2_12 (bq + wd) (bA B1 bq ((xs i - xs (i - 1)) - (sLo xs n)) wd) := z3
        have hP : va_P D vwCl [(qmr, .inl (cJ, 1024, .inr (.inl xs))), (qm, .inr (9, [.int cd, .int (nI n), .ref qmr, .int fm, .int (nI cm), .ref qmc, .int (nI s2_10), .ref qmb, .int (nI b2_11), .int (nI dm), .ref qml])), (qmb, .inl (cI, 10400, .inl m2_12))] H := hP
        have hD : va_D A [(qmr, .inl (cJ, 1024, .inr (.inl xs))), (qm, .inr (9, [.int cd, .int (nI n), .ref qmr, .int fm, .int (nI cm), .ref qmc, .int (nI s2_10), .ref qmb, .int (nI b2_11), .int (nI dm), .ref qml])), (qmb, .inl (cI, 10400, .inl m2_12))] := hD
        refine lv_iinc (v := nI (i + 1)) (lv' := [(4, .int (nI (i + 1))), (0, .ref qm), (1, .long (sLo xs n)), (3, .int (nI wd))]) hx hb dMo_writeSteps_67 hl (k := 3) rfl (by rw [show (Int32.ofInt 1) = nI 1 from by decide]; exact nI_add _ _) (by decide) rfl (fun ls hl => ?_)
        refine lv_goto (tgt := 45) hx hb dMo_writeSteps_70 (by decide) ?_
        exact ih_lp (i + 1) (bq + wd) s2_10 b2_11 m2_12 (bA B1 bq (xs i - xs (i - 1) - sLo xs n) wd) (by omega) (by omega) (by rw [show i + 1 - 1 = (i - 1) + 1 by omega, Nat.succ_mul (i - 1) wd]; omega) (z1) (z2) (z3) (fld_keep g4 (by omega)) (fld_keep g5 (by omega)) (fld_keep g55 (by omega)) (by rw [show i + 1 - 1 = (i - 1) + 1 by omega]; exact fld_add (a := fun j => 136 + j * wd) (wd := fun _ => wd) (vl := fun j => xs (j + 1) - xs j - sLo xs n) g6 (fun j hj => by have := mul_lo (w := wd) hj; show 136 + j * wd + wd ≤ bq; omega) (by show 136 + (i - 1) * wd = bq; omega) (by show xs (i - 1 + 1) - xs (i - 1) - sLo xs n = _; rw [show i - 1 + 1 = i by omega]) rfl) (by omega) _ _ _ (hP.sub [1, 0, 2] rfl) (hD.sub [1, 0, 2] (by decide) rfl) hS (lv_sub hl [1, 2, 3, 0] rfl)
  exact lp (n - 1 + 1) 1 (0 + 64 + 64 + 8) s2_7 b2_8 m2_9 (bA (bA (bA (fun _ => false) 0 (xs 0) 64) (0 + 64) (sLo xs n) 64) (0 + 64 + 64) (lN wd) 8) (by omega) (by omega) (by omega) (t1) (t2) (t3) (fld_keep (fld_keep (bA_fld _ _ _ _) (by omega)) (by omega)) (fld_keep (bA_fld _ _ _ _) (by omega)) (bA_fld _ _ _ _) (fun j hj => absurd hj (by omega)) (by omega) _ _ _ (hP.sub [1, 0, 2] rfl) (hD.sub [1, 0, 2] (by decide) rfl) hS (lv_sub hl [3, 2, 1, 0] rfl)

set_option maxHeartbeats 4000000 in
set_option maxRecDepth 100000 in
theorem m_wIn_0 (l : Launch) (D : va_G) (cJ cB cI cF : ClassId) (qm : Nat) (cd : Int32) (n : Nat) (qmr : Nat) (fm : Int32) (cm : Nat) (qmc : Nat) (szv : Nat) (qmb : Nat) (btv : Nat) (dm : Nat) (qml : Nat) (xs : Nat → Int64) (lm : Nat → Int64) (ys : Nat → Int64) (mm : Nat → Int32) (sz : Nat) (hn0 : 0 < n) (hn : n ≤ 1024) : Met l yMo_writeIn (Cond.code yMo_writeIn cMo_writeIn 6 (some .int) :: wsG) ({ frames := 5, cells := 0, slots := 0, locals := 150 }) (va_Pc [.ref qm, .int (nI 0)] (cfPre D (cfT cJ cB cI cF) [(qm, .inr (9, [.int cd, .int (nI n), .ref qmr, .int fm, .int (nI cm), .ref qmc, .int (nI szv), .ref qmb, .int (nI btv), .int (nI dm), .ref qml])), (qmr, .inl (cJ, 1024, .inr (.inl xs))), (qml, .inl (cJ, 1024, .inr (.inl lm))), (qmc, .inl (cJ, 1024, .inr (.inl ys))), (qmb, .inl (cI, 10400, .inl mm))] sz)) (va_Qi (fun (r : Int32) (u : Nat × Nat × Nat × (Nat → Int32) × (Nat → Bool) × Nat × (Nat → Int64) × (Nat → Int64)) => r = nI u.2.1 ∧ (u.2.1 = (u.1 + 7) / 8) ∧ (u.2.2.1 = u.1 % 8) ∧ (mB u.2.2.2.1 u.1 u.2.2.2.2.1) ∧ (lF 0 xs n u.1 u.2.2.2.2.1) ∧ (u.1 ≤ 81936) ∧ (∀ j, j < n → u.2.2.2.2.2.2.2 j = xs j) ∧ True) (fun u t => cfPost D ((fun (u : Nat × Nat × Nat × (Nat → Int32) × (Nat → Bool) × Nat × (Nat → Int64) × (Nat → Int64)) => [(qm, .inr (9, [.int cd, .int (nI n), .ref qmr, .int (nI 0), .int (nI n), .ref qmc, .int (nI u.2.1), .ref qmb, .int (nI u.2.2.1), .int (nI u.2.2.2.2.2.1), .ref qml])), (qmr, .inl (cJ, 1024, .inr (.inl xs))), (qml, .inl (cJ, 1024, .inr (.inl u.2.2.2.2.2.2.1))), (qmc, .inl (cJ, 1024, .inr (.inl u.2.2.2.2.2.2.2))), (qmb, .inl (cI, 10400, .inl u.2.2.2.1))]) u) (va_A [(qm, .inr (9, [.int cd, .int (nI n), .ref qmr, .int fm, .int (nI cm), .ref qmc, .int (nI szv), .ref qmb, .int (nI btv), .int (nI dm), .ref qml])), (qmr, .inl (cJ, 1024, .inr (.inl xs))), (qml, .inl (cJ, 1024, .inr (.inl lm))), (qmc, .inl (cJ, 1024, .inr (.inl ys))), (qmb, .inl (cI, 10400, .inl mm))] sz) t) (va_A [(qm, .inr (9, [.int cd, .int (nI n), .ref qmr, .int fm, .int (nI cm), .ref qmc, .int (nI szv), .ref qmb, .int (nI btv), .int (nI dm), .ref qml])), (qmr, .inl (cJ, 1024, .inr (.inl xs))), (qml, .inl (cJ, 1024, .inr (.inl lm))), (qmc, .inl (cJ, 1024, .inr (.inl ys))), (qmb, .inl (cI, 10400, .inl mm))] sz)) 0 0 (va_A [(qm, .inr (9, [.int cd, .int (nI n), .ref qmr, .int fm, .int (nI cm), .ref qmc, .int (nI szv), .ref qmb, .int (nI btv), .int (nI dm), .ref qml])), (qmr, .inl (cJ, 1024, .inr (.inl xs))), (qml, .inl (cJ, 1024, .inr (.inl lm))), (qmc, .inl (cJ, 1024, .inr (.inl ys))), (qmb, .inl (cI, 10400, .inl mm))] sz) := by
  refine met_i (cc := cMo_writeIn) (maxL := 6) (S := Nat × Nat × Nat × (Nat → Int32) × (Nat → Bool) × Nat × (Nat → Int64) × (Nat → Int64)) (D := D) (wO := fun (u : Nat × Nat × Nat × (Nat → Int32) × (Nat → Bool) × Nat × (Nat → Int64) × (Nat → Int64)) => [(qm, .inr (9, [.int cd, .int (nI n), .ref qmr, .int (nI 0), .int (nI n), .ref qmc, .int (nI u.2.1), .ref qmb, .int (nI u.2.2.1), .int (nI u.2.2.2.2.2.1), .ref qml])), (qmr, .inl (cJ, 1024, .inr (.inl xs))), (qml, .inl (cJ, 1024, .inr (.inl u.2.2.2.2.2.2.1))), (qmc, .inl (cJ, 1024, .inr (.inl u.2.2.2.2.2.2.2))), (qmb, .inl (cI, 10400, .inl u.2.2.2.1))]) (by decide) (Nat.le_of_ble_eq_true rfl) ?_
  intro p e s m below meth c hx hb hml hown hts hlocks hin hWd A hA hsz hP hK hD hS Q hret ls hl
  have hown : s.vm.findClass "ColumnFormsModel" = some m.cls := hown
  have hl : lv_has ls 6 [(0, .ref qm), (1, .int (nI 0))] := hl
  have hP : va_P D vwCl [(qm, .inr (9, [.int cd, .int (nI n), .ref qmr, .int fm, .int (nI cm), .ref qmc, .int (nI szv), .ref qmb, .int (nI btv), .int (nI dm), .ref qml])), (qmr, .inl (cJ, 1024, .inr (.inl xs))), (qml, .inl (cJ, 1024, .inr (.inl lm))), (qmc, .inl (cJ, 1024, .inr (.inl ys))), (qmb, .inl (cI, 10400, .inl mm))] s.heap := hP
  refine lv_aload_n hx hb dMo_writeIn_0 rfl (lv_at hl 0 rfl) ?_
  refine lv_iconst (v := nI 0) hx hb dMo_writeIn_1 (by decide) ?_
  refine va_put (D := D) (ci := 9) (v := .int (nI 0)) (ty := .int) (C := "ColumnFormsModel") (T := TMo) (N := 11) hx hb hts inMo tyMo tyMo_ok nmMo hown hK hP hD hS 0 rfl rfl 6 (by decide) (hts _ tw_595) (fun _ h9 => h9) rfl (by decide +kernel) rfl rfl (Nat.le_of_ble_eq_true rfl) dMo_writeIn_2 (fun H locs hP hD hS => ?_)
  have hP : va_P D vwCl [(qm, .inr (9, [.int cd, .int (nI n), .ref qmr, .int fm, .int (nI cm), .ref qmc, .int (nI 0), .ref qmb, .int (nI btv), .int (nI dm), .ref qml])), (qmr, .inl (cJ, 1024, .inr (.inl xs))), (qml, .inl (cJ, 1024, .inr (.inl lm))), (qmc, .inl (cJ, 1024, .inr (.inl ys))), (qmb, .inl (cI, 10400, .inl mm))] H := hP
  have hD : va_D A [(qm, .inr (9, [.int cd, .int (nI n), .ref qmr, .int fm, .int (nI cm), .ref qmc, .int (nI 0), .ref qmb, .int (nI btv), .int (nI dm), .ref qml])), (qmr, .inl (cJ, 1024, .inr (.inl xs))), (qml, .inl (cJ, 1024, .inr (.inl lm))), (qmc, .inl (cJ, 1024, .inr (.inl ys))), (qmb, .inl (cI, 10400, .inl mm))] := hD
  refine lv_aload_n hx hb dMo_writeIn_5 rfl (lv_at hl 0 rfl) ?_
  refine lv_iconst (v := nI 0) hx hb dMo_writeIn_6 (by decide) ?_
  refine va_put (D := D) (ci := 9) (v := .int (nI 0)) (ty := .int) (C := "ColumnFormsModel") (T := TMo) (N := 11) hx hb hts inMo tyMo tyMo_ok nmMo hown hK hP hD hS 0 rfl rfl 8 (by decide) (hts _ tw_597) (fun _ h9 => h9) rfl (by decide +kernel) rfl rfl (Nat.le_of_ble_eq_true rfl) dMo_writeIn_7 (fun H locs hP hD hS => ?_)
  have hP : va_P D vwCl [(qm, .inr (9, [.int cd, .int (nI n), .ref qmr, .int fm, .int (nI cm), .ref qmc, .int (nI 0), .ref qmb, .int (nI 0), .int (nI dm), .ref qml])), (qmr, .inl (cJ, 1024, .inr (.inl xs))), (qml, .inl (cJ, 1024, .inr (.inl lm))), (qmc, .inl (cJ, 1024, .inr (.inl ys))), (qmb, .inl (cI, 10400, .inl mm))] H := hP
  have hD : va_D A [(qm, .inr (9, [.int cd, .int (nI n), .ref qmr, .int fm, .int (nI cm), .ref qmc, .int (nI 0), .ref qmb, .int (nI 0), .int (nI dm), .ref qml])), (qmr, .inl (cJ, 1024, .inr (.inl xs))), (qml, .inl (cJ, 1024, .inr (.inl lm))), (qmc, .inl (cJ, 1024, .inr (.inl ys))), (qmb, .inl (cI, 10400, .inl mm))] := hD
  refine lv_aload_n hx hb dMo_writeIn_10 rfl (lv_at hl 0 rfl) ?_
  refine lv_iload_n hx hb dMo_writeIn_11 rfl (lv_at hl 1 rfl) ?_
  refine va_put (D := D) (ci := 9) (v := .int (nI 0)) (ty := .int) (C := "ColumnFormsModel") (T := TMo) (N := 11) hx hb hts inMo tyMo tyMo_ok nmMo hown hK hP hD hS 0 rfl rfl 3 (by decide) (hts _ tw_592) (fun _ h9 => h9) rfl (by decide +kernel) rfl rfl (Nat.le_of_ble_eq_true rfl) dMo_writeIn_12 (fun H locs hP hD hS => ?_)
  have hP : va_P D vwCl [(qm, .inr (9, [.int cd, .int (nI n), .ref qmr, .int (nI 0), .int (nI cm), .ref qmc, .int (nI 0), .ref qmb, .int (nI 0), .int (nI dm), .ref qml])), (qmr, .inl (cJ, 1024, .inr (.inl xs))), (qml, .inl (cJ, 1024, .inr (.inl lm))), (qmc, .inl (cJ, 1024, .inr (.inl ys))), (qmb, .inl (cI, 10400, .inl mm))] H := hP
  have hD : va_D A [(qm, .inr (9, [.int cd, .int (nI n), .ref qmr, .int (nI 0), .int (nI cm), .ref qmc, .int (nI 0), .ref qmb, .int (nI 0), .int (nI dm), .ref qml])), (qmr, .inl (cJ, 1024, .inr (.inl xs))), (qml, .inl (cJ, 1024, .inr (.inl lm))), (qmc, .inl (cJ, 1024, .inr (.inl ys))), (qmb, .inl (cI, 10400, .inl mm))] := hD
  refine lv_aload_n hx hb dMo_writeIn_15 rfl (lv_at hl 0 rfl) ?_
  refine lv_aload_n hx hb dMo_writeIn_16 rfl (lv_at hl 0 rfl) ?_
  refine va_get (D := D) (ci := 9) (v := .int (nI n)) (C := "ColumnFormsModel") (T := TMo) (N := 11) hx hb hts inMo hown hK hP 0 rfl rfl 1 (by decide) (hts _ tw_590) (fun _ h9 => h9) rfl dMo_writeIn_17 ?_
  refine va_put (D := D) (ci := 9) (v := .int (nI n)) (ty := .int) (C := "ColumnFormsModel") (T := TMo) (N := 11) hx hb hts inMo tyMo tyMo_ok nmMo hown hK hP hD hS 0 rfl rfl 4 (by decide) (hts _ tw_593) (fun _ h9 => h9) rfl (by decide +kernel) rfl rfl (Nat.le_of_ble_eq_true rfl) dMo_writeIn_20 (fun H locs hP hD hS => ?_)
  have hP : va_P D vwCl [(qm, .inr (9, [.int cd, .int (nI n), .ref qmr, .int (nI 0), .int (nI n), .ref qmc, .int (nI 0), .ref qmb, .int (nI 0), .int (nI dm), .ref qml])), (qmr, .inl (cJ, 1024, .inr (.inl xs))), (qml, .inl (cJ, 1024, .inr (.inl lm))), (qmc, .inl (cJ, 1024, .inr (.inl ys))), (qmb, .inl (cI, 10400, .inl mm))] H := hP
  have hD : va_D A [(qm, .inr (9, [.int cd, .int (nI n), .ref qmr, .int (nI 0), .int (nI n), .ref qmc, .int (nI 0), .ref qmb, .int (nI 0), .int (nI dm), .ref qml])), (qmr, .inl (cJ, 1024, .inr (.inl xs))), (qml, .inl (cJ, 1024, .inr (.inl lm))), (qmc, .inl (cJ, 1024, .inr (.inl ys))), (qmb, .inl (cI, 10400, .inl mm))] := hD
  refine lv_iconst (v := nI 0) hx hb dMo_writeIn_23 (by decide) ?_
  refine lv_istore_n (lv' := [(2, .int (nI 0)), (0, .ref qm), (1, .int (nI 0))]) hx hb dMo_writeIn_24 rfl hl (by decide) rfl (fun ls hl => ?_)
  have lpc : ∀ (k_lpc : Nat) (i : Nat) (y1 : Nat → Int64), (i ≤ n) → (∀ j, j < i → y1 j = xs j) → (n - i < k_lpc) → ∀ (H : Heap) (locs : List Loc) (ls : Array Slot), va_P D vwCl [(qm, .inr (9, [.int cd, .int (nI n), .ref qmr, .int (nI 0), .int (nI n), .ref qmc, .int (nI 0), .ref qmb, .int (nI 0), .int (nI dm), .ref qml])), (qmr, .inl (cJ, 1024, .inr (.inl xs))), (qml, .inl (cJ, 1024, .inr (.inl lm))), (qmc, .inl (cJ, 1024, .inr (.inl y1))), (qmb, .inl (cI, 10400, .inl mm))] H → va_D A [(qm, .inr (9, [.int cd, .int (nI n), .ref qmr, .int (nI 0), .int (nI n), .ref qmc, .int (nI 0), .ref qmb, .int (nI 0), .int (nI dm), .ref qml])), (qmr, .inl (cJ, 1024, .inr (.inl xs))), (qml, .inl (cJ, 1024, .inr (.inl lm))), (qmc, .inl (cJ, 1024, .inr (.inl y1))), (qmb, .inl (cI, 10400, .inl mm))] → va_S A s.heap H locs → lv_has ls 6 [(0, .ref qm), (1, .int (nI 0)), (2, .int (nI i))] → W p l e ({ frames := 5, cells := 0, slots := 0, locals := 150 }) s m ([.ref qm, .int (nI 0)].toArray) below meth c H locs (0) (0) Q (F0 m 25 ls []) := by
    intro k_lpc
    induction k_lpc with
    | zero => intro i y1 c1 c2 hfu; exact absurd hfu (by omega)
    | succ k_lpc ih_lpc =>
      intro i y1 c1 c2 hfu H locs ls hP hD hS hl
      refine lv_iload_n hx hb dMo_writeIn_25 rfl (lv_at hl 2 rfl) ?_
      refine lv_aload_n hx hb dMo_writeIn_26 rfl (lv_at hl 0 rfl) ?_
      refine va_get (D := D) (ci := 9) (v := .int (nI n)) (C := "ColumnFormsModel") (T := TMo) (N := 11) hx hb hts inMo hown hK hP 0 rfl rfl 1 (by decide) (hts _ tw_590) (fun _ h9 => h9) rfl dMo_writeIn_27 ?_
      refine lv_icmp_ge (tgt := 51) hx hb dMo_writeIn_30 (by decide) (fun c30 => ?_) (fun c30 => ?_)
      · have c30 : n ≤ i := (nI_leI (by omega) (by omega)).mp c30
        refine lv_iload_n hx hb dMo_writeIn_51 rfl (lv_at hl 1 rfl) ?_
        refine lv_if_ne (tgt := 86) hx hb dMo_writeIn_52 (by decide) (fun c52 => ?_) (fun c52 => ?_)
        · have c52 : ¬ 0 = 0 := fun h => c52 ((nI_eq (b := 0) (by omega) (by omega)).mpr h)
          exact absurd c52 (by decide)
        · have c52 : 0 = 0 := (nI_eq (b := 0) (by omega) (by omega)).mp c52
          refine lv_iconst (v := nI 0) hx hb dMo_writeIn_55 (by decide) ?_
          refine lv_istore_n (lv' := [(2, .int (nI 0)), (0, .ref qm), (1, .int (nI 0))]) hx hb dMo_writeIn_56 rfl hl (by decide) rfl (fun ls hl => ?_)
          have lpd : ∀ (k_lpd : Nat) (q_ : Nat) (bq : Nat) (s1 : Nat) (b1 : Nat) (m1 : Nat → Int32) (B1 : Nat → Bool), (q_ ≤ n) → (bq = 64 * q_) → (s1 = (bq + 7) / 8) → (b1 = bq % 8) → (mB m1 bq B1) → (∀ j, j < q_ → fld B1 (64 * j) 64 (xs j)) → (n - q_ < k_lpd) → ∀ (H : Heap) (locs : List Loc) (ls : Array Slot), va_P D vwCl [(qm, .inr (9, [.int cd, .int (nI n), .ref qmr, .int (nI 0), .int (nI n), .ref qmc, .int (nI s1), .ref qmb, .int (nI b1), .int (nI dm), .ref qml])), (qmr, .inl (cJ, 1024, .inr (.inl xs))), (qml, .inl (cJ, 1024, .inr (.inl lm))), (qmc, .inl (cJ, 1024, .inr (.inl y1))), (qmb, .inl (cI, 10400, .inl m1))] H → va_D A [(qm, .inr (9, [.int cd, .int (nI n), .ref qmr, .int (nI 0), .int (nI n), .ref qmc, .int (nI s1), .ref qmb, .int (nI b1), .int (nI dm), .ref qml])), (qmr, .inl (cJ, 1024, .inr (.inl xs))), (qml, .inl (cJ, 1024, .inr (.inl lm))), (qmc, .inl (cJ, 1024, .inr (.inl y1))), (qmb, .inl (cI, 10400, .inl m1))] → va_S A s.heap H locs → lv_has ls 6 [(0, .ref qm), (1, .int (nI 0)), (2, .int (nI q_))] → W p l e ({ frames := 5, cells := 0, slots := 0, locals := 150 }) s m ([.ref qm, .int (nI 0)].toArray) below meth c H locs (0) (0) Q (F0 m 57 ls []) := by
            intro k_lpd
            induction k_lpd with
            | zero => intro q_ bq s1 b1 m1 B1 g1 g2 e1 e2 e3 g4 hfu; exact absurd hfu (by omega)
            | succ k_lpd ih_lpd =>
              intro q_ bq s1 b1 m1 B1 g1 g2 e1 e2 e3 g4 hfu H locs ls hP hD hS hl
              refine lv_iload_n hx hb dMo_writeIn_57 rfl (lv_at hl 2 rfl) ?_
              refine lv_aload_n hx hb dMo_writeIn_58 rfl (lv_at hl 0 rfl) ?_
              refine va_get (D := D) (ci := 9) (v := .int (nI n)) (C := "ColumnFormsModel") (T := TMo) (N := 11) hx hb hts inMo hown hK hP 0 rfl rfl 1 (by decide) (hts _ tw_590) (fun _ h9 => h9) rfl dMo_writeIn_59 ?_
              refine lv_icmp_ge (tgt := 83) hx hb dMo_writeIn_62 (by decide) (fun c62 => ?_) (fun c62 => ?_)
              · have c62 : n ≤ q_ := (nI_leI (by omega) (by omega)).mp c62
                refine lv_goto (tgt := 187) hx hb dMo_writeIn_83 (by decide) ?_
                refine lv_aload_n hx hb dMo_writeIn_187 rfl (lv_at hl 0 rfl) ?_
                refine va_get (D := D) (ci := 9) (v := .int (nI s1)) (C := "ColumnFormsModel") (T := TMo) (N := 11) hx hb hts inMo hown hK hP 0 rfl rfl 6 (by decide) (hts _ tw_595) (fun _ h9 => h9) rfl dMo_writeIn_188 ?_
                exact hret (nI s1) (bq, s1, b1, m1, B1, dm, lm, y1) _ _ _ _ _ _ ⟨rfl, e1, e2, e3, ⟨by show bq = _; omega, fun j hj => g4 j (by omega)⟩, by show bq ≤ _; omega, fun j hj => c2 j (by omega), trivial⟩ (hP.sub [0, 1, 2, 3, 4] rfl) (hD.sub [0, 1, 2, 3, 4] (by decide) rfl) hS (Nat.le_of_ble_eq_true rfl) (Nat.le_of_ble_eq_true rfl) dMo_writeIn_191
              · have c62 : ¬ n ≤ q_ := fun h => c62 ((nI_leI (by omega) (by omega)).mpr h)
                refine lv_aload_n hx hb dMo_writeIn_65 rfl (lv_at hl 0 rfl) ?_
                refine lv_aload_n hx hb dMo_writeIn_66 rfl (lv_at hl 0 rfl) ?_
                refine va_get (D := D) (ci := 9) (v := .ref qmr) (C := "ColumnFormsModel") (T := TMo) (N := 11) hx hb hts inMo hown hK hP 0 rfl rfl 2 (by decide) (hts _ tw_591) (fun _ h9 => h9) rfl dMo_writeIn_67 ?_
                refine lv_iload_n hx hb dMo_writeIn_70 rfl (lv_at hl 2 rfl) ?_
                refine va_lald hx hb hK hP 1 0 rfl rfl (vp_in_nI (by omega) (by omega)) dMo_writeIn_71 ?_
                refine tp_l (show (xs (nI q_).toNatClampNeg) = (xs q_) from congrArg _ (nI_clamp (by omega))) ?_
                refine lv_bipush (v := nI 64) hx hb dMo_writeIn_72 (by decide) ?_
                refine kc_v (wc := [(qm, .inr (9, [.int cd, .int (nI n), .ref qmr, .int (nI 0), .int (nI n), .ref qmc, .int (nI s1), .ref qmb, .int (nI b1), .int (nI dm), .ref qml])), (qmb, .inl (cI, 10400, .inl m1))]) (wr := [(qmr, .inl (cJ, 1024, .inr (.inl xs))), (qml, .inl (cJ, 1024, .inr (.inl lm))), (qmc, .inl (cJ, 1024, .inr (.inl y1)))]) hP hD hS hA [0, 4] [1, 2, 3] rfl rfl (by decide) (by decide) (by decide) (fun hPc hDc => va_runV (As := [.long (xs q_), .int (nI 64)]) (rest := []) ⟨hx, hb, hml, hown, hts⟩ (m_num l D cJ cB cI cF qm cd n qmr (nI 0) n qmc s1 qmb b1 dm qml m1 B1 bq (xs q_) 64 _ (e1) (e2) (e3) (by omega) (by omega)) (cwV 2 hts (wsG_k tw_693 (wsG_k tw_695 (wsG_k tp_w21 (wsG_k tw_10 (wsG_c tw_696))))) rfl rfl rfl (by decide +kernel) ⟨Nat.le_of_ble_eq_true rfl, Nat.le_of_ble_eq_true rfl⟩) ⟨cf_blind, va_recv hK hPc (ci := 9) (q0 := 0) rfl rfl, cf_pre hPc hK hDc hWd⟩ rfl rfl hl.1 rfl (lv_room (Nat.le_of_ble_eq_true rfl)) dMo_writeIn_74 ⟨Nat.le_of_ble_eq_true rfl, Nat.le_of_ble_eq_true rfl⟩) (fun u H locs hw hP hD hS => ?_)
                obtain ⟨s2_1, b2_2, m2_3⟩ := u
                obtain ⟨z1, z2, z3, -⟩ := hw
                have z1 : s2_1 = (bq + 64 + 7) / 8 := z1
                have z2 : b2_2 = (bq + 64) % 8 := z2
                have z3 : mB m2_3 (bq + 64) (bA B1 bq (xs q_) 64) := z3
                have hP : va_P D vwCl [(qmr, .inl (cJ, 1024, .inr (.inl xs))), (qml, .inl (cJ, 1024, .inr (.inl lm))), (qmc, .inl (cJ, 1024, .inr (.inl y1))), (qm, .inr (9, [.int cd, .int (nI n), .ref qmr, .int (nI 0), .int (nI n), .ref qmc, .int (nI s2_1), .ref qmb, .int (nI b2_2), .int (nI dm), .ref qml])), (qmb, .inl (cI, 10400, .inl m2_3))] H := hP
                have hD : va_D A [(qmr, .inl (cJ, 1024, .inr (.inl xs))), (qml, .inl (cJ, 1024, .inr (.inl lm))), (qmc, .inl (cJ, 1024, .inr (.inl y1))), (qm, .inr (9, [.int cd, .int (nI n), .ref qmr, .int (nI 0), .int (nI n), .ref qmc, .int (nI s2_1), .ref qmb, .int (nI b2_2), .int (nI dm), .ref qml])), (qmb, .inl (cI, 10400, .inl m2_3))] := hD
                refine lv_iinc (v := nI (q_ + 1)) (lv' := [(2, .int (nI (q_ + 1))), (0, .ref qm), (1, .int (nI 0))]) hx hb dMo_writeIn_77 hl (k := 2) rfl (by rw [show (Int32.ofInt 1) = nI 1 from by decide]; exact nI_add _ _) (by decide) rfl (fun ls hl => ?_)
                refine lv_goto (tgt := 57) hx hb dMo_writeIn_80 (by decide) ?_
                exact ih_lpd (q_ + 1) (bq + 64) s2_1 b2_2 m2_3 (bA B1 bq (xs q_) 64) (by omega) (by omega) (z1) (z2) (z3) (fld_add (a := fun j => 64 * j) (wd := fun _ => 64) (vl := xs) g4 (fun j hj => by show 64 * j + 64 ≤ bq; omega) (by show 64 * q_ = bq; omega) rfl rfl) (by omega) _ _ _ (hP.sub [3, 0, 1, 2, 4] rfl) (hD.sub [3, 0, 1, 2, 4] (by decide) rfl) hS (lv_sub hl [1, 2, 0] rfl)
          exact lpd (n - 0 + 1) 0 0 0 0 mm (fun _ => false) (Nat.zero_le n) (rfl) (rfl) (rfl) (mB_0 mm _) (fun j hj => absurd hj (by omega)) (by omega) _ _ _ (hP.sub [0, 1, 2, 3, 4] rfl) (hD.sub [0, 1, 2, 3, 4] (by decide) rfl) hS (lv_sub hl [1, 2, 0] rfl)
      · have c30 : ¬ n ≤ i := fun h => c30 ((nI_leI (by omega) (by omega)).mpr h)
        refine lv_aload_n hx hb dMo_writeIn_33 rfl (lv_at hl 0 rfl) ?_
        refine va_get (D := D) (ci := 9) (v := .ref qmc) (C := "ColumnFormsModel") (T := TMo) (N := 11) hx hb hts inMo hown hK hP 0 rfl rfl 5 (by decide) (hts _ tw_594) (fun _ h9 => h9) rfl dMo_writeIn_34 ?_
        refine lv_iload_n hx hb dMo_writeIn_37 rfl (lv_at hl 2 rfl) ?_
        refine lv_aload_n hx hb dMo_writeIn_38 rfl (lv_at hl 0 rfl) ?_
        refine va_get (D := D) (ci := 9) (v := .ref qmr) (C := "ColumnFormsModel") (T := TMo) (N := 11) hx hb hts inMo hown hK hP 0 rfl rfl 2 (by decide) (hts _ tw_591) (fun _ h9 => h9) rfl dMo_writeIn_39 ?_
        refine lv_iload_n hx hb dMo_writeIn_42 rfl (lv_at hl 2 rfl) ?_
        refine va_lald hx hb hK hP 1 0 rfl rfl (vp_in_nI (by omega) (by omega)) dMo_writeIn_43 ?_
        refine tp_l (show (xs (nI i).toNatClampNeg) = (xs i) from congrArg _ (nI_clamp (by omega))) ?_
        refine va_last hx hb hK hP hD hS 3 0 rfl rfl (vp_in_nI (by omega) (by omega)) dMo_writeIn_44 (fun H locs hP hD hS => ?_)
        rw [nI_clamp (by omega)] at hP hD
        have hP : va_P D vwCl [(qm, .inr (9, [.int cd, .int (nI n), .ref qmr, .int (nI 0), .int (nI n), .ref qmc, .int (nI 0), .ref qmb, .int (nI 0), .int (nI dm), .ref qml])), (qmr, .inl (cJ, 1024, .inr (.inl xs))), (qml, .inl (cJ, 1024, .inr (.inl lm))), (qmc, .inl (cJ, 1024, .inr (.inl (vp_updL y1 i (xs i))))), (qmb, .inl (cI, 10400, .inl mm))] H := hP
        have hD : va_D A [(qm, .inr (9, [.int cd, .int (nI n), .ref qmr, .int (nI 0), .int (nI n), .ref qmc, .int (nI 0), .ref qmb, .int (nI 0), .int (nI dm), .ref qml])), (qmr, .inl (cJ, 1024, .inr (.inl xs))), (qml, .inl (cJ, 1024, .inr (.inl lm))), (qmc, .inl (cJ, 1024, .inr (.inl (vp_updL y1 i (xs i))))), (qmb, .inl (cI, 10400, .inl mm))] := hD
        refine lv_iinc (v := nI (i + 1)) (lv' := [(2, .int (nI (i + 1))), (0, .ref qm), (1, .int (nI 0))]) hx hb dMo_writeIn_45 hl (k := 2) rfl (by rw [show (Int32.ofInt 1) = nI 1 from by decide]; exact nI_add _ _) (by decide) rfl (fun ls hl => ?_)
        refine lv_goto (tgt := 25) hx hb dMo_writeIn_48 (by decide) ?_
        exact ih_lpc (i + 1) (vp_updL y1 i (xs i)) (by omega) (cp_all c2) (by omega) _ _ _ (hP.sub [0, 1, 2, 3, 4] rfl) (hD.sub [0, 1, 2, 3, 4] (by decide) rfl) hS (lv_sub hl [1, 2, 0] rfl)
  exact lpc (n - 0 + 1) 0 ys (Nat.zero_le n) (fun j hj => absurd hj (by omega)) (by omega) _ _ _ (hP.sub [0, 1, 2, 3, 4] rfl) (hD.sub [0, 1, 2, 3, 4] (by decide) rfl) hS (lv_sub hl [1, 2, 0] rfl)

set_option maxHeartbeats 4000000 in
set_option maxRecDepth 100000 in
theorem m_wIn_1 (l : Launch) (D : va_G) (cJ cB cI cF : ClassId) (qm : Nat) (cd : Int32) (n : Nat) (qmr : Nat) (fm : Int32) (cm : Nat) (qmc : Nat) (szv : Nat) (qmb : Nat) (btv : Nat) (dm : Nat) (qml : Nat) (xs : Nat → Int64) (lm : Nat → Int64) (ys : Nat → Int64) (mm : Nat → Int32) (sz : Nat) (hn0 : 0 < n) (hn : n ≤ 1024) : Met l yMo_writeIn (Cond.code yMo_writeIn cMo_writeIn 6 (some .int) :: wsG) ({ frames := 5, cells := 0, slots := 0, locals := 150 }) (va_Pc [.ref qm, .int (nI 1)] (cfPre D (cfT cJ cB cI cF) [(qm, .inr (9, [.int cd, .int (nI n), .ref qmr, .int fm, .int (nI cm), .ref qmc, .int (nI szv), .ref qmb, .int (nI btv), .int (nI dm), .ref qml])), (qmr, .inl (cJ, 1024, .inr (.inl xs))), (qml, .inl (cJ, 1024, .inr (.inl lm))), (qmc, .inl (cJ, 1024, .inr (.inl ys))), (qmb, .inl (cI, 10400, .inl mm))] sz)) (va_Qi (fun (r : Int32) (u : Nat × Nat × Nat × (Nat → Int32) × (Nat → Bool) × Nat × (Nat → Int64) × (Nat → Int64)) => r = nI u.2.1 ∧ (u.2.1 = (u.1 + 7) / 8) ∧ (u.2.2.1 = u.1 % 8) ∧ (mB u.2.2.2.1 u.1 u.2.2.2.2.1) ∧ (lF 1 xs n u.1 u.2.2.2.2.1) ∧ (u.1 ≤ 81936) ∧ (∀ j, j < n → u.2.2.2.2.2.2.2 j = xs j) ∧ True) (fun u t => cfPost D ((fun (u : Nat × Nat × Nat × (Nat → Int32) × (Nat → Bool) × Nat × (Nat → Int64) × (Nat → Int64)) => [(qm, .inr (9, [.int cd, .int (nI n), .ref qmr, .int (nI 1), .int (nI n), .ref qmc, .int (nI u.2.1), .ref qmb, .int (nI u.2.2.1), .int (nI u.2.2.2.2.2.1), .ref qml])), (qmr, .inl (cJ, 1024, .inr (.inl xs))), (qml, .inl (cJ, 1024, .inr (.inl u.2.2.2.2.2.2.1))), (qmc, .inl (cJ, 1024, .inr (.inl u.2.2.2.2.2.2.2))), (qmb, .inl (cI, 10400, .inl u.2.2.2.1))]) u) (va_A [(qm, .inr (9, [.int cd, .int (nI n), .ref qmr, .int fm, .int (nI cm), .ref qmc, .int (nI szv), .ref qmb, .int (nI btv), .int (nI dm), .ref qml])), (qmr, .inl (cJ, 1024, .inr (.inl xs))), (qml, .inl (cJ, 1024, .inr (.inl lm))), (qmc, .inl (cJ, 1024, .inr (.inl ys))), (qmb, .inl (cI, 10400, .inl mm))] sz) t) (va_A [(qm, .inr (9, [.int cd, .int (nI n), .ref qmr, .int fm, .int (nI cm), .ref qmc, .int (nI szv), .ref qmb, .int (nI btv), .int (nI dm), .ref qml])), (qmr, .inl (cJ, 1024, .inr (.inl xs))), (qml, .inl (cJ, 1024, .inr (.inl lm))), (qmc, .inl (cJ, 1024, .inr (.inl ys))), (qmb, .inl (cI, 10400, .inl mm))] sz)) 0 0 (va_A [(qm, .inr (9, [.int cd, .int (nI n), .ref qmr, .int fm, .int (nI cm), .ref qmc, .int (nI szv), .ref qmb, .int (nI btv), .int (nI dm), .ref qml])), (qmr, .inl (cJ, 1024, .inr (.inl xs))), (qml, .inl (cJ, 1024, .inr (.inl lm))), (qmc, .inl (cJ, 1024, .inr (.inl ys))), (qmb, .inl (cI, 10400, .inl mm))] sz) := by
  refine met_i (cc := cMo_writeIn) (maxL := 6) (S := Nat × Nat × Nat × (Nat → Int32) × (Nat → Bool) × Nat × (Nat → Int64) × (Nat → Int64)) (D := D) (wO := fun (u : Nat × Nat × Nat × (Nat → Int32) × (Nat → Bool) × Nat × (Nat → Int64) × (Nat → Int64)) => [(qm, .inr (9, [.int cd, .int (nI n), .ref qmr, .int (nI 1), .int (nI n), .ref qmc, .int (nI u.2.1), .ref qmb, .int (nI u.2.2.1), .int (nI u.2.2.2.2.2.1), .ref qml])), (qmr, .inl (cJ, 1024, .inr (.inl xs))), (qml, .inl (cJ, 1024, .inr (.inl u.2.2.2.2.2.2.1))), (qmc, .inl (cJ, 1024, .inr (.inl u.2.2.2.2.2.2.2))), (qmb, .inl (cI, 10400, .inl u.2.2.2.1))]) (by decide) (Nat.le_of_ble_eq_true rfl) ?_
  intro p e s m below meth c hx hb hml hown hts hlocks hin hWd A hA hsz hP hK hD hS Q hret ls hl
  have hown : s.vm.findClass "ColumnFormsModel" = some m.cls := hown
  have hl : lv_has ls 6 [(0, .ref qm), (1, .int (nI 1))] := hl
  have hP : va_P D vwCl [(qm, .inr (9, [.int cd, .int (nI n), .ref qmr, .int fm, .int (nI cm), .ref qmc, .int (nI szv), .ref qmb, .int (nI btv), .int (nI dm), .ref qml])), (qmr, .inl (cJ, 1024, .inr (.inl xs))), (qml, .inl (cJ, 1024, .inr (.inl lm))), (qmc, .inl (cJ, 1024, .inr (.inl ys))), (qmb, .inl (cI, 10400, .inl mm))] s.heap := hP
  refine lv_aload_n hx hb dMo_writeIn_0 rfl (lv_at hl 0 rfl) ?_
  refine lv_iconst (v := nI 0) hx hb dMo_writeIn_1 (by decide) ?_
  refine va_put (D := D) (ci := 9) (v := .int (nI 0)) (ty := .int) (C := "ColumnFormsModel") (T := TMo) (N := 11) hx hb hts inMo tyMo tyMo_ok nmMo hown hK hP hD hS 0 rfl rfl 6 (by decide) (hts _ tw_595) (fun _ h9 => h9) rfl (by decide +kernel) rfl rfl (Nat.le_of_ble_eq_true rfl) dMo_writeIn_2 (fun H locs hP hD hS => ?_)
  have hP : va_P D vwCl [(qm, .inr (9, [.int cd, .int (nI n), .ref qmr, .int fm, .int (nI cm), .ref qmc, .int (nI 0), .ref qmb, .int (nI btv), .int (nI dm), .ref qml])), (qmr, .inl (cJ, 1024, .inr (.inl xs))), (qml, .inl (cJ, 1024, .inr (.inl lm))), (qmc, .inl (cJ, 1024, .inr (.inl ys))), (qmb, .inl (cI, 10400, .inl mm))] H := hP
  have hD : va_D A [(qm, .inr (9, [.int cd, .int (nI n), .ref qmr, .int fm, .int (nI cm), .ref qmc, .int (nI 0), .ref qmb, .int (nI btv), .int (nI dm), .ref qml])), (qmr, .inl (cJ, 1024, .inr (.inl xs))), (qml, .inl (cJ, 1024, .inr (.inl lm))), (qmc, .inl (cJ, 1024, .inr (.inl ys))), (qmb, .inl (cI, 10400, .inl mm))] := hD
  refine lv_aload_n hx hb dMo_writeIn_5 rfl (lv_at hl 0 rfl) ?_
  refine lv_iconst (v := nI 0) hx hb dMo_writeIn_6 (by decide) ?_
  refine va_put (D := D) (ci := 9) (v := .int (nI 0)) (ty := .int) (C := "ColumnFormsModel") (T := TMo) (N := 11) hx hb hts inMo tyMo tyMo_ok nmMo hown hK hP hD hS 0 rfl rfl 8 (by decide) (hts _ tw_597) (fun _ h9 => h9) rfl (by decide +kernel) rfl rfl (Nat.le_of_ble_eq_true rfl) dMo_writeIn_7 (fun H locs hP hD hS => ?_)
  have hP : va_P D vwCl [(qm, .inr (9, [.int cd, .int (nI n), .ref qmr, .int fm, .int (nI cm), .ref qmc, .int (nI 0), .ref qmb, .int (nI 0), .int (nI dm), .ref qml])), (qmr, .inl (cJ, 1024, .inr (.inl xs))), (qml, .inl (cJ, 1024, .inr (.inl lm))), (qmc, .inl (cJ, 1024, .inr (.inl ys))), (qmb, .inl (cI, 10400, .inl mm))] H := hP
  have hD : va_D A [(qm, .inr (9, [.int cd, .int (nI n), .ref qmr, .int fm, .int (nI cm), .ref qmc, .int (nI 0), .ref qmb, .int (nI 0), .int (nI dm), .ref qml])), (qmr, .inl (cJ, 1024, .inr (.inl xs))), (qml, .inl (cJ, 1024, .inr (.inl lm))), (qmc, .inl (cJ, 1024, .inr (.inl ys))), (qmb, .inl (cI, 10400, .inl mm))] := hD
  refine lv_aload_n hx hb dMo_writeIn_10 rfl (lv_at hl 0 rfl) ?_
  refine lv_iload_n hx hb dMo_writeIn_11 rfl (lv_at hl 1 rfl) ?_
  refine va_put (D := D) (ci := 9) (v := .int (nI 1)) (ty := .int) (C := "ColumnFormsModel") (T := TMo) (N := 11) hx hb hts inMo tyMo tyMo_ok nmMo hown hK hP hD hS 0 rfl rfl 3 (by decide) (hts _ tw_592) (fun _ h9 => h9) rfl (by decide +kernel) rfl rfl (Nat.le_of_ble_eq_true rfl) dMo_writeIn_12 (fun H locs hP hD hS => ?_)
  have hP : va_P D vwCl [(qm, .inr (9, [.int cd, .int (nI n), .ref qmr, .int (nI 1), .int (nI cm), .ref qmc, .int (nI 0), .ref qmb, .int (nI 0), .int (nI dm), .ref qml])), (qmr, .inl (cJ, 1024, .inr (.inl xs))), (qml, .inl (cJ, 1024, .inr (.inl lm))), (qmc, .inl (cJ, 1024, .inr (.inl ys))), (qmb, .inl (cI, 10400, .inl mm))] H := hP
  have hD : va_D A [(qm, .inr (9, [.int cd, .int (nI n), .ref qmr, .int (nI 1), .int (nI cm), .ref qmc, .int (nI 0), .ref qmb, .int (nI 0), .int (nI dm), .ref qml])), (qmr, .inl (cJ, 1024, .inr (.inl xs))), (qml, .inl (cJ, 1024, .inr (.inl lm))), (qmc, .inl (cJ, 1024, .inr (.inl ys))), (qmb, .inl (cI, 10400, .inl mm))] := hD
  refine lv_aload_n hx hb dMo_writeIn_15 rfl (lv_at hl 0 rfl) ?_
  refine lv_aload_n hx hb dMo_writeIn_16 rfl (lv_at hl 0 rfl) ?_
  refine va_get (D := D) (ci := 9) (v := .int (nI n)) (C := "ColumnFormsModel") (T := TMo) (N := 11) hx hb hts inMo hown hK hP 0 rfl rfl 1 (by decide) (hts _ tw_590) (fun _ h9 => h9) rfl dMo_writeIn_17 ?_
  refine va_put (D := D) (ci := 9) (v := .int (nI n)) (ty := .int) (C := "ColumnFormsModel") (T := TMo) (N := 11) hx hb hts inMo tyMo tyMo_ok nmMo hown hK hP hD hS 0 rfl rfl 4 (by decide) (hts _ tw_593) (fun _ h9 => h9) rfl (by decide +kernel) rfl rfl (Nat.le_of_ble_eq_true rfl) dMo_writeIn_20 (fun H locs hP hD hS => ?_)
  have hP : va_P D vwCl [(qm, .inr (9, [.int cd, .int (nI n), .ref qmr, .int (nI 1), .int (nI n), .ref qmc, .int (nI 0), .ref qmb, .int (nI 0), .int (nI dm), .ref qml])), (qmr, .inl (cJ, 1024, .inr (.inl xs))), (qml, .inl (cJ, 1024, .inr (.inl lm))), (qmc, .inl (cJ, 1024, .inr (.inl ys))), (qmb, .inl (cI, 10400, .inl mm))] H := hP
  have hD : va_D A [(qm, .inr (9, [.int cd, .int (nI n), .ref qmr, .int (nI 1), .int (nI n), .ref qmc, .int (nI 0), .ref qmb, .int (nI 0), .int (nI dm), .ref qml])), (qmr, .inl (cJ, 1024, .inr (.inl xs))), (qml, .inl (cJ, 1024, .inr (.inl lm))), (qmc, .inl (cJ, 1024, .inr (.inl ys))), (qmb, .inl (cI, 10400, .inl mm))] := hD
  refine lv_iconst (v := nI 0) hx hb dMo_writeIn_23 (by decide) ?_
  refine lv_istore_n (lv' := [(2, .int (nI 0)), (0, .ref qm), (1, .int (nI 1))]) hx hb dMo_writeIn_24 rfl hl (by decide) rfl (fun ls hl => ?_)
  have lpc : ∀ (k_lpc : Nat) (i : Nat) (y1 : Nat → Int64), (i ≤ n) → (∀ j, j < i → y1 j = xs j) → (n - i < k_lpc) → ∀ (H : Heap) (locs : List Loc) (ls : Array Slot), va_P D vwCl [(qm, .inr (9, [.int cd, .int (nI n), .ref qmr, .int (nI 1), .int (nI n), .ref qmc, .int (nI 0), .ref qmb, .int (nI 0), .int (nI dm), .ref qml])), (qmr, .inl (cJ, 1024, .inr (.inl xs))), (qml, .inl (cJ, 1024, .inr (.inl lm))), (qmc, .inl (cJ, 1024, .inr (.inl y1))), (qmb, .inl (cI, 10400, .inl mm))] H → va_D A [(qm, .inr (9, [.int cd, .int (nI n), .ref qmr, .int (nI 1), .int (nI n), .ref qmc, .int (nI 0), .ref qmb, .int (nI 0), .int (nI dm), .ref qml])), (qmr, .inl (cJ, 1024, .inr (.inl xs))), (qml, .inl (cJ, 1024, .inr (.inl lm))), (qmc, .inl (cJ, 1024, .inr (.inl y1))), (qmb, .inl (cI, 10400, .inl mm))] → va_S A s.heap H locs → lv_has ls 6 [(0, .ref qm), (1, .int (nI 1)), (2, .int (nI i))] → W p l e ({ frames := 5, cells := 0, slots := 0, locals := 150 }) s m ([.ref qm, .int (nI 1)].toArray) below meth c H locs (0) (0) Q (F0 m 25 ls []) := by
    intro k_lpc
    induction k_lpc with
    | zero => intro i y1 c1 c2 hfu; exact absurd hfu (by omega)
    | succ k_lpc ih_lpc =>
      intro i y1 c1 c2 hfu H locs ls hP hD hS hl
      refine lv_iload_n hx hb dMo_writeIn_25 rfl (lv_at hl 2 rfl) ?_
      refine lv_aload_n hx hb dMo_writeIn_26 rfl (lv_at hl 0 rfl) ?_
      refine va_get (D := D) (ci := 9) (v := .int (nI n)) (C := "ColumnFormsModel") (T := TMo) (N := 11) hx hb hts inMo hown hK hP 0 rfl rfl 1 (by decide) (hts _ tw_590) (fun _ h9 => h9) rfl dMo_writeIn_27 ?_
      refine lv_icmp_ge (tgt := 51) hx hb dMo_writeIn_30 (by decide) (fun c30 => ?_) (fun c30 => ?_)
      · have c30 : n ≤ i := (nI_leI (by omega) (by omega)).mp c30
        refine lv_iload_n hx hb dMo_writeIn_51 rfl (lv_at hl 1 rfl) ?_
        refine lv_if_ne (tgt := 86) hx hb dMo_writeIn_52 (by decide) (fun c52 => ?_) (fun c52 => ?_)
        · have c52 : ¬ 1 = 0 := fun h => c52 ((nI_eq (b := 0) (by omega) (by omega)).mpr h)
          refine lv_iload_n hx hb dMo_writeIn_86 rfl (lv_at hl 1 rfl) ?_
          refine lv_iconst (v := nI 1) hx hb dMo_writeIn_87 (by decide) ?_
          refine lv_icmp_ne (tgt := 159) hx hb dMo_writeIn_88 (by decide) (fun c88 => ?_) (fun c88 => ?_)
          · have c88 : ¬ 1 = 1 := fun h => c88 ((nI_eq (by omega) (by omega)).mpr h)
            exact absurd c88 (by decide)
          · have c88 : 1 = 1 := (nI_eq (by omega) (by omega)).mp c88
            refine lv_aload_n hx hb dMo_writeIn_91 rfl (lv_at hl 0 rfl) ?_
            refine kc_l (wc := [(qm, .inr (9, [.int cd, .int (nI n), .ref qmr, .int (nI 1), .int (nI n), .ref qmc, .int (nI 0), .ref qmb, .int (nI 0), .int (nI dm), .ref qml])), (qmr, .inl (cJ, 1024, .inr (.inl xs)))]) (wr := [(qml, .inl (cJ, 1024, .inr (.inl lm))), (qmc, .inl (cJ, 1024, .inr (.inl y1))), (qmb, .inl (cI, 10400, .inl mm))]) hP hD hS hA [0, 1] [2, 3, 4] rfl rfl (by decide) (by decide) (by decide) (fun hPc hDc => va_runV (As := []) (rest := []) ⟨hx, hb, hml, hown, hts⟩ (m_least l D cJ cB cI cF qm cd n qmr (nI 1) n qmc 0 qmb 0 dm qml xs _ (hn0) (hn)) (cwV 0 hts (wsG_k tw_651 (wsG_k tw_653 (wsG_k tp_w13 (wsG_k tw_10 (wsG_c tw_654))))) rfl rfl rfl (by decide +kernel) ⟨Nat.le_of_ble_eq_true rfl, Nat.le_of_ble_eq_true rfl⟩) ⟨cf_blind, va_recv hK hPc (ci := 9) (q0 := 0) rfl rfl, cf_pre hPc hK hDc hWd⟩ rfl rfl hl.1 rfl (lv_room (Nat.le_of_ble_eq_true rfl)) dMo_writeIn_92 ⟨Nat.le_of_ble_eq_true rfl, Nat.le_of_ble_eq_true rfl⟩) (fun r u H locs hw hP hD hS => ?_)
            obtain ⟨rfl, -⟩ := hw
            have hP : va_P D vwCl [(qml, .inl (cJ, 1024, .inr (.inl lm))), (qmc, .inl (cJ, 1024, .inr (.inl y1))), (qmb, .inl (cI, 10400, .inl mm)), (qm, .inr (9, [.int cd, .int (nI n), .ref qmr, .int (nI 1), .int (nI n), .ref qmc, .int (nI 0), .ref qmb, .int (nI 0), .int (nI dm), .ref qml])), (qmr, .inl (cJ, 1024, .inr (.inl xs)))] H := hP
            have hD : va_D A [(qml, .inl (cJ, 1024, .inr (.inl lm))), (qmc, .inl (cJ, 1024, .inr (.inl y1))), (qmb, .inl (cI, 10400, .inl mm)), (qm, .inr (9, [.int cd, .int (nI n), .ref qmr, .int (nI 1), .int (nI n), .ref qmc, .int (nI 0), .ref qmb, .int (nI 0), .int (nI dm), .ref qml])), (qmr, .inl (cJ, 1024, .inr (.inl xs)))] := hD
            refine lv_lstore_n (lv' := [(2, .long (rLo xs n)), (0, .ref qm), (1, .int (nI 1))]) hx hb dMo_writeIn_95 rfl hl (by decide) rfl (fun ls hl => ?_)
            refine lv_aload_n hx hb dMo_writeIn_96 rfl (lv_at hl 1 rfl) ?_
            refine kc_l (wc := [(qm, .inr (9, [.int cd, .int (nI n), .ref qmr, .int (nI 1), .int (nI n), .ref qmc, .int (nI 0), .ref qmb, .int (nI 0), .int (nI dm), .ref qml])), (qmr, .inl (cJ, 1024, .inr (.inl xs)))]) (wr := [(qml, .inl (cJ, 1024, .inr (.inl lm))), (qmc, .inl (cJ, 1024, .inr (.inl y1))), (qmb, .inl (cI, 10400, .inl mm))]) hP hD hS hA [3, 4] [0, 1, 2] rfl rfl (by decide) (by decide) (by decide) (fun hPc hDc => va_runV (As := []) (rest := []) ⟨hx, hb, hml, hown, hts⟩ (m_great l D cJ cB cI cF qm cd n qmr (nI 1) n qmc 0 qmb 0 dm qml xs _ (hn0) (hn)) (cwV 0 hts (wsG_k tw_647 (wsG_k tw_649 (wsG_k tp_w12 (wsG_k tw_10 (wsG_c tw_650))))) rfl rfl rfl (by decide +kernel) ⟨Nat.le_of_ble_eq_true rfl, Nat.le_of_ble_eq_true rfl⟩) ⟨cf_blind, va_recv hK hPc (ci := 9) (q0 := 0) rfl rfl, cf_pre hPc hK hDc hWd⟩ rfl rfl hl.1 rfl (lv_room (Nat.le_of_ble_eq_true rfl)) dMo_writeIn_97 ⟨Nat.le_of_ble_eq_true rfl, Nat.le_of_ble_eq_true rfl⟩) (fun r u H locs hw hP hD hS => ?_)
            obtain ⟨rfl, -⟩ := hw
            have hP : va_P D vwCl [(qml, .inl (cJ, 1024, .inr (.inl lm))), (qmc, .inl (cJ, 1024, .inr (.inl y1))), (qmb, .inl (cI, 10400, .inl mm)), (qm, .inr (9, [.int cd, .int (nI n), .ref qmr, .int (nI 1), .int (nI n), .ref qmc, .int (nI 0), .ref qmb, .int (nI 0), .int (nI dm), .ref qml])), (qmr, .inl (cJ, 1024, .inr (.inl xs)))] H := hP
            have hD : va_D A [(qml, .inl (cJ, 1024, .inr (.inl lm))), (qmc, .inl (cJ, 1024, .inr (.inl y1))), (qmb, .inl (cI, 10400, .inl mm)), (qm, .inr (9, [.int cd, .int (nI n), .ref qmr, .int (nI 1), .int (nI n), .ref qmc, .int (nI 0), .ref qmb, .int (nI 0), .int (nI dm), .ref qml])), (qmr, .inl (cJ, 1024, .inr (.inl xs)))] := hD
            refine lv_lload_n hx hb dMo_writeIn_100 rfl (lv_at hl 0 rfl) ?_
            refine lv_lsub hx hb dMo_writeIn_101 ?_
            refine kc_i (wc := []) (wr := [(qml, .inl (cJ, 1024, .inr (.inl lm))), (qmc, .inl (cJ, 1024, .inr (.inl y1))), (qmb, .inl (cI, 10400, .inl mm)), (qm, .inr (9, [.int cd, .int (nI n), .ref qmr, .int (nI 1), .int (nI n), .ref qmc, .int (nI 0), .ref qmb, .int (nI 0), .int (nI dm), .ref qml])), (qmr, .inl (cJ, 1024, .inr (.inl xs)))]) hP hD hS hA [] [0, 1, 2, 3, 4] rfl rfl (by decide) (by decide) (by decide) (fun hPc hDc => va_runS (As := [.long ((rHi xs n) - (rLo xs n))]) (rest := []) ⟨hx, hb, hml, hown, hts⟩ (m_digits l D cJ cB cI cF ((rHi xs n) - (rLo xs n)) _) (va_cwS 1 hts (wsG_k tw_655 (wsG_k tw_656 (wsG_k tw_10 (wsG_c tw_657)))) rfl rfl rfl (by decide +kernel) ⟨Nat.le_of_ble_eq_true rfl, Nat.le_of_ble_eq_true rfl⟩) ⟨cf_blind, cf_pre hPc hK hDc hWd⟩ rfl rfl hl.1 rfl (lv_room (Nat.le_of_ble_eq_true rfl)) dMo_writeIn_102 ⟨Nat.le_of_ble_eq_true rfl, Nat.le_of_ble_eq_true rfl⟩) (fun r u H locs hw hP hD hS => ?_)
            obtain ⟨rfl, -⟩ := hw
            have hP : va_P D vwCl [(qml, .inl (cJ, 1024, .inr (.inl lm))), (qmc, .inl (cJ, 1024, .inr (.inl y1))), (qmb, .inl (cI, 10400, .inl mm)), (qm, .inr (9, [.int cd, .int (nI n), .ref qmr, .int (nI 1), .int (nI n), .ref qmc, .int (nI 0), .ref qmb, .int (nI 0), .int (nI dm), .ref qml])), (qmr, .inl (cJ, 1024, .inr (.inl xs)))] H := hP
            have hD : va_D A [(qml, .inl (cJ, 1024, .inr (.inl lm))), (qmc, .inl (cJ, 1024, .inr (.inl y1))), (qmb, .inl (cI, 10400, .inl mm)), (qm, .inr (9, [.int cd, .int (nI n), .ref qmr, .int (nI 1), .int (nI n), .ref qmc, .int (nI 0), .ref qmb, .int (nI 0), .int (nI dm), .ref qml])), (qmr, .inl (cJ, 1024, .inr (.inl xs)))] := hD
            obtain ⟨wd, hwd⟩ : ∃ z, z = bln (uN ((rHi xs n) - (rLo xs n))) := ⟨_, rfl⟩
            have hw1 : wd ≤ 64 := by rw [hwd]; exact bln64 _
            refine tp_i (show (nI (bln (uN ((rHi xs n) - (rLo xs n))))) = (nI wd) from congrArg nI hwd.symm) ?_
            refine lv_istore (lv' := [(4, .int (nI wd)), (2, .long (rLo xs n)), (0, .ref qm), (1, .int (nI 1))]) hx hb dMo_writeIn_105 hl (by decide) rfl (fun ls hl => ?_)
            refine lv_aload_n hx hb dMo_writeIn_107 rfl (lv_at hl 2 rfl) ?_
            refine lv_lload_n hx hb dMo_writeIn_108 rfl (lv_at hl 1 rfl) ?_
            refine lv_bipush (v := nI 64) hx hb dMo_writeIn_109 (by decide) ?_
            refine kc_v (wc := [(qm, .inr (9, [.int cd, .int (nI n), .ref qmr, .int (nI 1), .int (nI n), .ref qmc, .int (nI 0), .ref qmb, .int (nI 0), .int (nI dm), .ref qml])), (qmb, .inl (cI, 10400, .inl mm))]) (wr := [(qml, .inl (cJ, 1024, .inr (.inl lm))), (qmc, .inl (cJ, 1024, .inr (.inl y1))), (qmr, .inl (cJ, 1024, .inr (.inl xs)))]) hP hD hS hA [3, 2] [0, 1, 4] rfl rfl (by decide) (by decide) (by decide) (fun hPc hDc => va_runV (As := [.long (rLo xs n), .int (nI 64)]) (rest := []) ⟨hx, hb, hml, hown, hts⟩ (m_num l D cJ cB cI cF qm cd n qmr (nI 1) n qmc 0 qmb 0 dm qml mm (fun _ => false) 0 (rLo xs n) 64 _ (rfl) (rfl) (mB_0 mm _) (by omega) (by omega)) (cwV 2 hts (wsG_k tw_693 (wsG_k tw_695 (wsG_k tp_w21 (wsG_k tw_10 (wsG_c tw_696))))) rfl rfl rfl (by decide +kernel) ⟨Nat.le_of_ble_eq_true rfl, Nat.le_of_ble_eq_true rfl⟩) ⟨cf_blind, va_recv hK hPc (ci := 9) (q0 := 0) rfl rfl, cf_pre hPc hK hDc hWd⟩ rfl rfl hl.1 rfl (lv_room (Nat.le_of_ble_eq_true rfl)) dMo_writeIn_111 ⟨Nat.le_of_ble_eq_true rfl, Nat.le_of_ble_eq_true rfl⟩) (fun u H locs hw hP hD hS => ?_)
            obtain ⟨s2_1, b2_2, m2_3⟩ := u
            obtain ⟨x1_, x2_, x3_, -⟩ := hw
            have x1_ : s2_1 = (0 + 64 + 7) / 8 := x1_
            have x2_ : b2_2 = (0 + 64) % 8 := x2_
            have x3_ : mB m2_3 (0 + 64) (bA (fun _ => false) 0 (rLo xs n) 64) := x3_
            have hP : va_P D vwCl [(qml, .inl (cJ, 1024, .inr (.inl lm))), (qmc, .inl (cJ, 1024, .inr (.inl y1))), (qmr, .inl (cJ, 1024, .inr (.inl xs))), (qm, .inr (9, [.int cd, .int (nI n), .ref qmr, .int (nI 1), .int (nI n), .ref qmc, .int (nI s2_1), .ref qmb, .int (nI b2_2), .int (nI dm), .ref qml])), (qmb, .inl (cI, 10400, .inl m2_3))] H := hP
            have hD : va_D A [(qml, .inl (cJ, 1024, .inr (.inl lm))), (qmc, .inl (cJ, 1024, .inr (.inl y1))), (qmr, .inl (cJ, 1024, .inr (.inl xs))), (qm, .inr (9, [.int cd, .int (nI n), .ref qmr, .int (nI 1), .int (nI n), .ref qmc, .int (nI s2_1), .ref qmb, .int (nI b2_2), .int (nI dm), .ref qml])), (qmb, .inl (cI, 10400, .inl m2_3))] := hD
            refine lv_aload_n hx hb dMo_writeIn_114 rfl (lv_at hl 2 rfl) ?_
            refine lv_iload hx hb dMo_writeIn_115 (lv_at hl 0 rfl) ?_
            refine lv_i2l hx hb dMo_writeIn_117 rfl ?_
            refine tp_l (show ((nI wd).toInt64) = (lN wd) from nI_l (by omega)) ?_
            refine lv_bipush (v := nI 8) hx hb dMo_writeIn_118 (by decide) ?_
            refine kc_v (wc := [(qm, .inr (9, [.int cd, .int (nI n), .ref qmr, .int (nI 1), .int (nI n), .ref qmc, .int (nI s2_1), .ref qmb, .int (nI b2_2), .int (nI dm), .ref qml])), (qmb, .inl (cI, 10400, .inl m2_3))]) (wr := [(qml, .inl (cJ, 1024, .inr (.inl lm))), (qmc, .inl (cJ, 1024, .inr (.inl y1))), (qmr, .inl (cJ, 1024, .inr (.inl xs)))]) hP hD hS hA [3, 4] [0, 1, 2] rfl rfl (by decide) (by decide) (by decide) (fun hPc hDc => va_runV (As := [.long (lN wd), .int (nI 8)]) (rest := []) ⟨hx, hb, hml, hown, hts⟩ (m_num l D cJ cB cI cF qm cd n qmr (nI 1) n qmc s2_1 qmb b2_2 dm qml m2_3 (bA (fun _ => false) 0 (rLo xs n) 64) (0 + 64) (lN wd) 8 _ (x1_) (x2_) (x3_) (by omega) (by omega)) (cwV 2 hts (wsG_k tw_693 (wsG_k tw_695 (wsG_k tp_w21 (wsG_k tw_10 (wsG_c tw_696))))) rfl rfl rfl (by decide +kernel) ⟨Nat.le_of_ble_eq_true rfl, Nat.le_of_ble_eq_true rfl⟩) ⟨cf_blind, va_recv hK hPc (ci := 9) (q0 := 0) rfl rfl, cf_pre hPc hK hDc hWd⟩ rfl rfl hl.1 rfl (lv_room (Nat.le_of_ble_eq_true rfl)) dMo_writeIn_120 ⟨Nat.le_of_ble_eq_true rfl, Nat.le_of_ble_eq_true rfl⟩) (fun u H locs hw hP hD hS => ?_)
            obtain ⟨s2_4, b2_5, m2_6⟩ := u
            obtain ⟨y1_, y2_, y3_, -⟩ := hw
            have y1_ : s2_4 = ((0 + 64) + 8 + 7) / 8 := y1_
            have y2_ : b2_5 = ((0 + 64) + 8) % 8 := y2_
            have y3_ : mB m2_6 ((0 + 64) + 8) (bA (bA (fun _ => false) 0 (rLo xs n) 64) (0 + 64) (lN wd) 8) := y3_
            have hP : va_P D vwCl [(qml, .inl (cJ, 1024, .inr (.inl lm))), (qmc, .inl (cJ, 1024, .inr (.inl y1))), (qmr, .inl (cJ, 1024, .inr (.inl xs))), (qm, .inr (9, [.int cd, .int (nI n), .ref qmr, .int (nI 1), .int (nI n), .ref qmc, .int (nI s2_4), .ref qmb, .int (nI b2_5), .int (nI dm), .ref qml])), (qmb, .inl (cI, 10400, .inl m2_6))] H := hP
            have hD : va_D A [(qml, .inl (cJ, 1024, .inr (.inl lm))), (qmc, .inl (cJ, 1024, .inr (.inl y1))), (qmr, .inl (cJ, 1024, .inr (.inl xs))), (qm, .inr (9, [.int cd, .int (nI n), .ref qmr, .int (nI 1), .int (nI n), .ref qmc, .int (nI s2_4), .ref qmb, .int (nI b2_5), .int (nI dm), .ref qml])), (qmb, .inl (cI, 10400, .inl m2_6))] := hD
            refine lv_iconst (v := nI 0) hx hb dMo_writeIn_123 (by decide) ?_
            refine lv_istore (lv' := [(5, .int (nI 0)), (4, .int (nI wd)), (2, .long (rLo xs n)), (0, .ref qm), (1, .int (nI 1))]) hx hb dMo_writeIn_124 hl (by decide) rfl (fun ls hl => ?_)
            have lpd : ∀ (k_lpd : Nat) (q_ : Nat) (bq : Nat) (s1 : Nat) (b1 : Nat) (m1 : Nat → Int32) (B1 : Nat → Bool), (q_ ≤ n) → (bq = 72 + q_ * wd) → (s1 = (bq + 7) / 8) → (b1 = bq % 8) → (mB m1 bq B1) → (fld B1 0 64 (rLo xs n)) → (fld B1 64 8 (lN wd)) → (∀ j, j < q_ → fld B1 (72 + j * wd) wd (xs j - rLo xs n)) → (n - q_ < k_lpd) → ∀ (H : Heap) (locs : List Loc) (ls : Array Slot), va_P D vwCl [(qm, .inr (9, [.int cd, .int (nI n), .ref qmr, .int (nI 1), .int (nI n), .ref qmc, .int (nI s1), .ref qmb, .int (nI b1), .int (nI dm), .ref qml])), (qmr, .inl (cJ, 1024, .inr (.inl xs))), (qml, .inl (cJ, 1024, .inr (.inl lm))), (qmc, .inl (cJ, 1024, .inr (.inl y1))), (qmb, .inl (cI, 10400, .inl m1))] H → va_D A [(qm, .inr (9, [.int cd, .int (nI n), .ref qmr, .int (nI 1), .int (nI n), .ref qmc, .int (nI s1), .ref qmb, .int (nI b1), .int (nI dm), .ref qml])), (qmr, .inl (cJ, 1024, .inr (.inl xs))), (qml, .inl (cJ, 1024, .inr (.inl lm))), (qmc, .inl (cJ, 1024, .inr (.inl y1))), (qmb, .inl (cI, 10400, .inl m1))] → va_S A s.heap H locs → lv_has ls 6 [(0, .ref qm), (1, .int (nI 1)), (2, .long (rLo xs n)), (4, .int (nI wd)), (5, .int (nI q_))] → W p l e ({ frames := 5, cells := 0, slots := 0, locals := 150 }) s m ([.ref qm, .int (nI 1)].toArray) below meth c H locs (0) (0) Q (F0 m 126 ls []) := by
              intro k_lpd
              induction k_lpd with
              | zero => intro q_ bq s1 b1 m1 B1 g1 g2 e1 e2 e3 g4 g5 g6 hfu; exact absurd hfu (by omega)
              | succ k_lpd ih_lpd =>
                intro q_ bq s1 b1 m1 B1 g1 g2 e1 e2 e3 g4 g5 g6 hfu H locs ls hP hD hS hl
                have hm : q_ * wd ≤ 1024 * 64 := Nat.mul_le_mul (by omega) hw1
                refine lv_iload hx hb dMo_writeIn_126 (lv_at hl 4 rfl) ?_
                refine lv_aload_n hx hb dMo_writeIn_128 rfl (lv_at hl 0 rfl) ?_
                refine va_get (D := D) (ci := 9) (v := .int (nI n)) (C := "ColumnFormsModel") (T := TMo) (N := 11) hx hb hts inMo hown hK hP 0 rfl rfl 1 (by decide) (hts _ tw_590) (fun _ h9 => h9) rfl dMo_writeIn_129 ?_
                refine lv_icmp_ge (tgt := 156) hx hb dMo_writeIn_132 (by decide) (fun c132 => ?_) (fun c132 => ?_)
                · have c132 : n ≤ q_ := (nI_leI (by omega) (by omega)).mp c132
                  refine lv_goto (tgt := 187) hx hb dMo_writeIn_156 (by decide) ?_
                  refine lv_aload_n hx hb dMo_writeIn_187 rfl (lv_at hl 0 rfl) ?_
                  refine va_get (D := D) (ci := 9) (v := .int (nI s1)) (C := "ColumnFormsModel") (T := TMo) (N := 11) hx hb hts inMo hown hK hP 0 rfl rfl 6 (by decide) (hts _ tw_595) (fun _ h9 => h9) rfl dMo_writeIn_188 ?_
                  exact hret (nI s1) (bq, s1, b1, m1, B1, dm, lm, y1) _ _ _ _ _ _ ⟨rfl, e1, e2, e3, lK_of rfl rfl hwd (by have e : q_ = n := (by omega); rw [← e]; exact g2) g4 g5 (fun j hj => g6 j (by omega)), by show bq ≤ _; omega, fun j hj => c2 j (by omega), trivial⟩ (hP.sub [0, 1, 2, 3, 4] rfl) (hD.sub [0, 1, 2, 3, 4] (by decide) rfl) hS (Nat.le_of_ble_eq_true rfl) (Nat.le_of_ble_eq_true rfl) dMo_writeIn_191
                · have c132 : ¬ n ≤ q_ := fun h => c132 ((nI_leI (by omega) (by omega)).mpr h)
                  refine lv_aload_n hx hb dMo_writeIn_135 rfl (lv_at hl 0 rfl) ?_
                  refine lv_aload_n hx hb dMo_writeIn_136 rfl (lv_at hl 0 rfl) ?_
                  refine va_get (D := D) (ci := 9) (v := .ref qmr) (C := "ColumnFormsModel") (T := TMo) (N := 11) hx hb hts inMo hown hK hP 0 rfl rfl 2 (by decide) (hts _ tw_591) (fun _ h9 => h9) rfl dMo_writeIn_137 ?_
                  refine lv_iload hx hb dMo_writeIn_140 (lv_at hl 4 rfl) ?_
                  refine va_lald hx hb hK hP 1 0 rfl rfl (vp_in_nI (by omega) (by omega)) dMo_writeIn_142 ?_
                  refine tp_l (show (xs (nI q_).toNatClampNeg) = (xs q_) from congrArg _ (nI_clamp (by omega))) ?_
                  refine lv_lload_n hx hb dMo_writeIn_143 rfl (lv_at hl 2 rfl) ?_
                  refine lv_lsub hx hb dMo_writeIn_144 ?_
                  refine lv_iload hx hb dMo_writeIn_145 (lv_at hl 3 rfl) ?_
                  refine kc_v (wc := [(qm, .inr (9, [.int cd, .int (nI n), .ref qmr, .int (nI 1), .int (nI n), .ref qmc, .int (nI s1), .ref qmb, .int (nI b1), .int (nI dm), .ref qml])), (qmb, .inl (cI, 10400, .inl m1))]) (wr := [(qmr, .inl (cJ, 1024, .inr (.inl xs))), (qml, .inl (cJ, 1024, .inr (.inl lm))), (qmc, .inl (cJ, 1024, .inr (.inl y1)))]) hP hD hS hA [0, 4] [1, 2, 3] rfl rfl (by decide) (by decide) (by decide) (fun hPc hDc => va_runV (As := [.long ((xs q_) - (rLo xs n)), .int (nI wd)]) (rest := []) ⟨hx, hb, hml, hown, hts⟩ (m_num l D cJ cB cI cF qm cd n qmr (nI 1) n qmc s1 qmb b1 dm qml m1 B1 bq ((xs q_) - (rLo xs n)) wd _ (e1) (e2) (e3) (hw1) (by omega)) (cwV 2 hts (wsG_k tw_693 (wsG_k tw_695 (wsG_k tp_w21 (wsG_k tw_10 (wsG_c tw_696))))) rfl rfl rfl (by decide +kernel) ⟨Nat.le_of_ble_eq_true rfl, Nat.le_of_ble_eq_true rfl⟩) ⟨cf_blind, va_recv hK hPc (ci := 9) (q0 := 0) rfl rfl, cf_pre hPc hK hDc hWd⟩ rfl rfl hl.1 rfl (lv_room (Nat.le_of_ble_eq_true rfl)) dMo_writeIn_147 ⟨Nat.le_of_ble_eq_true rfl, Nat.le_of_ble_eq_true rfl⟩) (fun u H locs hw hP hD hS => ?_)
                  obtain ⟨s2_7, b2_8, m2_9⟩ := u
                  obtain ⟨z1, z2, z3, -⟩ := hw
                  have z1 : s2_7 = (bq + wd + 7) / 8 := z1
                  have z2 : b2_8 = (bq + wd) % 8 := z2
                  have z3 : mB m2_9 (bq + wd) (bA B1 bq ((xs q_) - (rLo xs n)) wd) := z3
                  have hP : va_P D vwCl [(qmr, .inl (cJ, 1024, .inr (.inl xs))), (qml, .inl (cJ, 1024, .inr (.inl lm))), (qmc, .inl (cJ, 1024, .inr (.inl y1))), (qm, .inr (9, [.int cd, .int (nI n), .ref qmr, .int (nI 1), .int (nI n), .ref qmc, .int (nI s2_7), .ref qmb, .int (nI b2_8), .int (nI dm), .ref qml])), (qmb, .inl (cI, 10400, .inl m2_9))] H := hP
                  have hD : va_D A [(qmr, .inl (cJ, 1024, .inr (.inl xs))), (qml, .inl (cJ, 1024, .inr (.inl lm))), (qmc, .inl (cJ, 1024, .inr (.inl y1))), (qm, .inr (9, [.int cd, .int (nI n), .ref qmr, .int (nI 1), .int (nI n), .ref qmc, .int (nI s2_7), .ref qmb, .int (nI b2_8), .int (nI dm), .ref qml])), (qmb, .inl (cI, 10400, .inl m2_9))] := hD
                  refine lv_iinc (v := nI (q_ + 1)) (lv' := [(5, .int (nI (q_ + 1))), (0, .ref qm), (1, .int (nI 1)), (2, .long (rLo xs n)), (4, .int (nI wd))]) hx hb dMo_writeIn_150 hl (k := 4) rfl (by rw [show (Int32.ofInt 1) = nI 1 from by decide]; exact nI_add _ _) (by decide) rfl (fun ls hl => ?_)
                  refine lv_goto (tgt := 126) hx hb dMo_writeIn_153 (by decide) ?_
                  exact ih_lpd (q_ + 1) (bq + wd) s2_7 b2_8 m2_9 (bA B1 bq (xs q_ - rLo xs n) wd) (by omega) (by rw [Nat.succ_mul q_ wd]; omega) (z1) (z2) (z3) (fld_keep g4 (by omega)) (fld_keep g5 (by omega)) (fld_add (a := fun j => 72 + j * wd) (wd := fun _ => wd) (vl := fun j => xs j - rLo xs n) g6 (fun j hj => by have := mul_lo (w := wd) hj; show 72 + j * wd + wd ≤ bq; omega) (by show 72 + q_ * wd = bq; omega) rfl rfl) (by omega) _ _ _ (hP.sub [3, 0, 1, 2, 4] rfl) (hD.sub [3, 0, 1, 2, 4] (by decide) rfl) hS (lv_sub hl [1, 2, 3, 4, 0] rfl)
            exact lpd (n - 0 + 1) 0 (0 + 64 + 8) s2_4 b2_5 m2_6 (bA (bA (fun _ => false) 0 (rLo xs n) 64) (0 + 64) (lN wd) 8) (Nat.zero_le n) (by omega) (y1_) (y2_) (y3_) (fld_keep (bA_fld _ _ _ _) (by omega)) (bA_fld _ _ _ _) (fun j hj => absurd hj (by omega)) (by omega) _ _ _ (hP.sub [3, 2, 0, 1, 4] rfl) (hD.sub [3, 2, 0, 1, 4] (by decide) rfl) hS (lv_sub hl [3, 4, 2, 1, 0] rfl)
        · have c52 : 1 = 0 := (nI_eq (b := 0) (by omega) (by omega)).mp c52
          exact absurd c52 (by decide)
      · have c30 : ¬ n ≤ i := fun h => c30 ((nI_leI (by omega) (by omega)).mpr h)
        refine lv_aload_n hx hb dMo_writeIn_33 rfl (lv_at hl 0 rfl) ?_
        refine va_get (D := D) (ci := 9) (v := .ref qmc) (C := "ColumnFormsModel") (T := TMo) (N := 11) hx hb hts inMo hown hK hP 0 rfl rfl 5 (by decide) (hts _ tw_594) (fun _ h9 => h9) rfl dMo_writeIn_34 ?_
        refine lv_iload_n hx hb dMo_writeIn_37 rfl (lv_at hl 2 rfl) ?_
        refine lv_aload_n hx hb dMo_writeIn_38 rfl (lv_at hl 0 rfl) ?_
        refine va_get (D := D) (ci := 9) (v := .ref qmr) (C := "ColumnFormsModel") (T := TMo) (N := 11) hx hb hts inMo hown hK hP 0 rfl rfl 2 (by decide) (hts _ tw_591) (fun _ h9 => h9) rfl dMo_writeIn_39 ?_
        refine lv_iload_n hx hb dMo_writeIn_42 rfl (lv_at hl 2 rfl) ?_
        refine va_lald hx hb hK hP 1 0 rfl rfl (vp_in_nI (by omega) (by omega)) dMo_writeIn_43 ?_
        refine tp_l (show (xs (nI i).toNatClampNeg) = (xs i) from congrArg _ (nI_clamp (by omega))) ?_
        refine va_last hx hb hK hP hD hS 3 0 rfl rfl (vp_in_nI (by omega) (by omega)) dMo_writeIn_44 (fun H locs hP hD hS => ?_)
        rw [nI_clamp (by omega)] at hP hD
        have hP : va_P D vwCl [(qm, .inr (9, [.int cd, .int (nI n), .ref qmr, .int (nI 1), .int (nI n), .ref qmc, .int (nI 0), .ref qmb, .int (nI 0), .int (nI dm), .ref qml])), (qmr, .inl (cJ, 1024, .inr (.inl xs))), (qml, .inl (cJ, 1024, .inr (.inl lm))), (qmc, .inl (cJ, 1024, .inr (.inl (vp_updL y1 i (xs i))))), (qmb, .inl (cI, 10400, .inl mm))] H := hP
        have hD : va_D A [(qm, .inr (9, [.int cd, .int (nI n), .ref qmr, .int (nI 1), .int (nI n), .ref qmc, .int (nI 0), .ref qmb, .int (nI 0), .int (nI dm), .ref qml])), (qmr, .inl (cJ, 1024, .inr (.inl xs))), (qml, .inl (cJ, 1024, .inr (.inl lm))), (qmc, .inl (cJ, 1024, .inr (.inl (vp_updL y1 i (xs i))))), (qmb, .inl (cI, 10400, .inl mm))] := hD
        refine lv_iinc (v := nI (i + 1)) (lv' := [(2, .int (nI (i + 1))), (0, .ref qm), (1, .int (nI 1))]) hx hb dMo_writeIn_45 hl (k := 2) rfl (by rw [show (Int32.ofInt 1) = nI 1 from by decide]; exact nI_add _ _) (by decide) rfl (fun ls hl => ?_)
        refine lv_goto (tgt := 25) hx hb dMo_writeIn_48 (by decide) ?_
        exact ih_lpc (i + 1) (vp_updL y1 i (xs i)) (by omega) (cp_all c2) (by omega) _ _ _ (hP.sub [0, 1, 2, 3, 4] rfl) (hD.sub [0, 1, 2, 3, 4] (by decide) rfl) hS (lv_sub hl [1, 2, 0] rfl)
  exact lpc (n - 0 + 1) 0 ys (Nat.zero_le n) (fun j hj => absurd hj (by omega)) (by omega) _ _ _ (hP.sub [0, 1, 2, 3, 4] rfl) (hD.sub [0, 1, 2, 3, 4] (by decide) rfl) hS (lv_sub hl [1, 2, 0] rfl)

set_option maxHeartbeats 4000000 in
set_option maxRecDepth 100000 in
theorem m_wIn_2 (l : Launch) (D : va_G) (cJ cB cI cF : ClassId) (qm : Nat) (cd : Int32) (n : Nat) (qmr : Nat) (fm : Int32) (cm : Nat) (qmc : Nat) (szv : Nat) (qmb : Nat) (btv : Nat) (dm : Nat) (qml : Nat) (xs : Nat → Int64) (lm : Nat → Int64) (ys : Nat → Int64) (mm : Nat → Int32) (sz : Nat) (hn0 : 0 < n) (hn : n ≤ 1024) : Met l yMo_writeIn (Cond.code yMo_writeIn cMo_writeIn 6 (some .int) :: wsG) ({ frames := 5, cells := 0, slots := 0, locals := 150 }) (va_Pc [.ref qm, .int (nI 2)] (cfPre D (cfT cJ cB cI cF) [(qm, .inr (9, [.int cd, .int (nI n), .ref qmr, .int fm, .int (nI cm), .ref qmc, .int (nI szv), .ref qmb, .int (nI btv), .int (nI dm), .ref qml])), (qmr, .inl (cJ, 1024, .inr (.inl xs))), (qml, .inl (cJ, 1024, .inr (.inl lm))), (qmc, .inl (cJ, 1024, .inr (.inl ys))), (qmb, .inl (cI, 10400, .inl mm))] sz)) (va_Qi (fun (r : Int32) (u : Nat × Nat × Nat × (Nat → Int32) × (Nat → Bool) × Nat × (Nat → Int64) × (Nat → Int64)) => r = nI u.2.1 ∧ (u.2.1 = (u.1 + 7) / 8) ∧ (u.2.2.1 = u.1 % 8) ∧ (mB u.2.2.2.1 u.1 u.2.2.2.2.1) ∧ (lF 2 xs n u.1 u.2.2.2.2.1) ∧ (u.1 ≤ 81936) ∧ (∀ j, j < n → u.2.2.2.2.2.2.2 j = xs j) ∧ True) (fun u t => cfPost D ((fun (u : Nat × Nat × Nat × (Nat → Int32) × (Nat → Bool) × Nat × (Nat → Int64) × (Nat → Int64)) => [(qm, .inr (9, [.int cd, .int (nI n), .ref qmr, .int (nI 2), .int (nI n), .ref qmc, .int (nI u.2.1), .ref qmb, .int (nI u.2.2.1), .int (nI u.2.2.2.2.2.1), .ref qml])), (qmr, .inl (cJ, 1024, .inr (.inl xs))), (qml, .inl (cJ, 1024, .inr (.inl u.2.2.2.2.2.2.1))), (qmc, .inl (cJ, 1024, .inr (.inl u.2.2.2.2.2.2.2))), (qmb, .inl (cI, 10400, .inl u.2.2.2.1))]) u) (va_A [(qm, .inr (9, [.int cd, .int (nI n), .ref qmr, .int fm, .int (nI cm), .ref qmc, .int (nI szv), .ref qmb, .int (nI btv), .int (nI dm), .ref qml])), (qmr, .inl (cJ, 1024, .inr (.inl xs))), (qml, .inl (cJ, 1024, .inr (.inl lm))), (qmc, .inl (cJ, 1024, .inr (.inl ys))), (qmb, .inl (cI, 10400, .inl mm))] sz) t) (va_A [(qm, .inr (9, [.int cd, .int (nI n), .ref qmr, .int fm, .int (nI cm), .ref qmc, .int (nI szv), .ref qmb, .int (nI btv), .int (nI dm), .ref qml])), (qmr, .inl (cJ, 1024, .inr (.inl xs))), (qml, .inl (cJ, 1024, .inr (.inl lm))), (qmc, .inl (cJ, 1024, .inr (.inl ys))), (qmb, .inl (cI, 10400, .inl mm))] sz)) 0 0 (va_A [(qm, .inr (9, [.int cd, .int (nI n), .ref qmr, .int fm, .int (nI cm), .ref qmc, .int (nI szv), .ref qmb, .int (nI btv), .int (nI dm), .ref qml])), (qmr, .inl (cJ, 1024, .inr (.inl xs))), (qml, .inl (cJ, 1024, .inr (.inl lm))), (qmc, .inl (cJ, 1024, .inr (.inl ys))), (qmb, .inl (cI, 10400, .inl mm))] sz) := by
  refine met_i (cc := cMo_writeIn) (maxL := 6) (S := Nat × Nat × Nat × (Nat → Int32) × (Nat → Bool) × Nat × (Nat → Int64) × (Nat → Int64)) (D := D) (wO := fun (u : Nat × Nat × Nat × (Nat → Int32) × (Nat → Bool) × Nat × (Nat → Int64) × (Nat → Int64)) => [(qm, .inr (9, [.int cd, .int (nI n), .ref qmr, .int (nI 2), .int (nI n), .ref qmc, .int (nI u.2.1), .ref qmb, .int (nI u.2.2.1), .int (nI u.2.2.2.2.2.1), .ref qml])), (qmr, .inl (cJ, 1024, .inr (.inl xs))), (qml, .inl (cJ, 1024, .inr (.inl u.2.2.2.2.2.2.1))), (qmc, .inl (cJ, 1024, .inr (.inl u.2.2.2.2.2.2.2))), (qmb, .inl (cI, 10400, .inl u.2.2.2.1))]) (by decide) (Nat.le_of_ble_eq_true rfl) ?_
  intro p e s m below meth c hx hb hml hown hts hlocks hin hWd A hA hsz hP hK hD hS Q hret ls hl
  have hown : s.vm.findClass "ColumnFormsModel" = some m.cls := hown
  have hl : lv_has ls 6 [(0, .ref qm), (1, .int (nI 2))] := hl
  have hP : va_P D vwCl [(qm, .inr (9, [.int cd, .int (nI n), .ref qmr, .int fm, .int (nI cm), .ref qmc, .int (nI szv), .ref qmb, .int (nI btv), .int (nI dm), .ref qml])), (qmr, .inl (cJ, 1024, .inr (.inl xs))), (qml, .inl (cJ, 1024, .inr (.inl lm))), (qmc, .inl (cJ, 1024, .inr (.inl ys))), (qmb, .inl (cI, 10400, .inl mm))] s.heap := hP
  refine lv_aload_n hx hb dMo_writeIn_0 rfl (lv_at hl 0 rfl) ?_
  refine lv_iconst (v := nI 0) hx hb dMo_writeIn_1 (by decide) ?_
  refine va_put (D := D) (ci := 9) (v := .int (nI 0)) (ty := .int) (C := "ColumnFormsModel") (T := TMo) (N := 11) hx hb hts inMo tyMo tyMo_ok nmMo hown hK hP hD hS 0 rfl rfl 6 (by decide) (hts _ tw_595) (fun _ h9 => h9) rfl (by decide +kernel) rfl rfl (Nat.le_of_ble_eq_true rfl) dMo_writeIn_2 (fun H locs hP hD hS => ?_)
  have hP : va_P D vwCl [(qm, .inr (9, [.int cd, .int (nI n), .ref qmr, .int fm, .int (nI cm), .ref qmc, .int (nI 0), .ref qmb, .int (nI btv), .int (nI dm), .ref qml])), (qmr, .inl (cJ, 1024, .inr (.inl xs))), (qml, .inl (cJ, 1024, .inr (.inl lm))), (qmc, .inl (cJ, 1024, .inr (.inl ys))), (qmb, .inl (cI, 10400, .inl mm))] H := hP
  have hD : va_D A [(qm, .inr (9, [.int cd, .int (nI n), .ref qmr, .int fm, .int (nI cm), .ref qmc, .int (nI 0), .ref qmb, .int (nI btv), .int (nI dm), .ref qml])), (qmr, .inl (cJ, 1024, .inr (.inl xs))), (qml, .inl (cJ, 1024, .inr (.inl lm))), (qmc, .inl (cJ, 1024, .inr (.inl ys))), (qmb, .inl (cI, 10400, .inl mm))] := hD
  refine lv_aload_n hx hb dMo_writeIn_5 rfl (lv_at hl 0 rfl) ?_
  refine lv_iconst (v := nI 0) hx hb dMo_writeIn_6 (by decide) ?_
  refine va_put (D := D) (ci := 9) (v := .int (nI 0)) (ty := .int) (C := "ColumnFormsModel") (T := TMo) (N := 11) hx hb hts inMo tyMo tyMo_ok nmMo hown hK hP hD hS 0 rfl rfl 8 (by decide) (hts _ tw_597) (fun _ h9 => h9) rfl (by decide +kernel) rfl rfl (Nat.le_of_ble_eq_true rfl) dMo_writeIn_7 (fun H locs hP hD hS => ?_)
  have hP : va_P D vwCl [(qm, .inr (9, [.int cd, .int (nI n), .ref qmr, .int fm, .int (nI cm), .ref qmc, .int (nI 0), .ref qmb, .int (nI 0), .int (nI dm), .ref qml])), (qmr, .inl (cJ, 1024, .inr (.inl xs))), (qml, .inl (cJ, 1024, .inr (.inl lm))), (qmc, .inl (cJ, 1024, .inr (.inl ys))), (qmb, .inl (cI, 10400, .inl mm))] H := hP
  have hD : va_D A [(qm, .inr (9, [.int cd, .int (nI n), .ref qmr, .int fm, .int (nI cm), .ref qmc, .int (nI 0), .ref qmb, .int (nI 0), .int (nI dm), .ref qml])), (qmr, .inl (cJ, 1024, .inr (.inl xs))), (qml, .inl (cJ, 1024, .inr (.inl lm))), (qmc, .inl (cJ, 1024, .inr (.inl ys))), (qmb, .inl (cI, 10400, .inl mm))] := hD
  refine lv_aload_n hx hb dMo_writeIn_10 rfl (lv_at hl 0 rfl) ?_
  refine lv_iload_n hx hb dMo_writeIn_11 rfl (lv_at hl 1 rfl) ?_
  refine va_put (D := D) (ci := 9) (v := .int (nI 2)) (ty := .int) (C := "ColumnFormsModel") (T := TMo) (N := 11) hx hb hts inMo tyMo tyMo_ok nmMo hown hK hP hD hS 0 rfl rfl 3 (by decide) (hts _ tw_592) (fun _ h9 => h9) rfl (by decide +kernel) rfl rfl (Nat.le_of_ble_eq_true rfl) dMo_writeIn_12 (fun H locs hP hD hS => ?_)
  have hP : va_P D vwCl [(qm, .inr (9, [.int cd, .int (nI n), .ref qmr, .int (nI 2), .int (nI cm), .ref qmc, .int (nI 0), .ref qmb, .int (nI 0), .int (nI dm), .ref qml])), (qmr, .inl (cJ, 1024, .inr (.inl xs))), (qml, .inl (cJ, 1024, .inr (.inl lm))), (qmc, .inl (cJ, 1024, .inr (.inl ys))), (qmb, .inl (cI, 10400, .inl mm))] H := hP
  have hD : va_D A [(qm, .inr (9, [.int cd, .int (nI n), .ref qmr, .int (nI 2), .int (nI cm), .ref qmc, .int (nI 0), .ref qmb, .int (nI 0), .int (nI dm), .ref qml])), (qmr, .inl (cJ, 1024, .inr (.inl xs))), (qml, .inl (cJ, 1024, .inr (.inl lm))), (qmc, .inl (cJ, 1024, .inr (.inl ys))), (qmb, .inl (cI, 10400, .inl mm))] := hD
  refine lv_aload_n hx hb dMo_writeIn_15 rfl (lv_at hl 0 rfl) ?_
  refine lv_aload_n hx hb dMo_writeIn_16 rfl (lv_at hl 0 rfl) ?_
  refine va_get (D := D) (ci := 9) (v := .int (nI n)) (C := "ColumnFormsModel") (T := TMo) (N := 11) hx hb hts inMo hown hK hP 0 rfl rfl 1 (by decide) (hts _ tw_590) (fun _ h9 => h9) rfl dMo_writeIn_17 ?_
  refine va_put (D := D) (ci := 9) (v := .int (nI n)) (ty := .int) (C := "ColumnFormsModel") (T := TMo) (N := 11) hx hb hts inMo tyMo tyMo_ok nmMo hown hK hP hD hS 0 rfl rfl 4 (by decide) (hts _ tw_593) (fun _ h9 => h9) rfl (by decide +kernel) rfl rfl (Nat.le_of_ble_eq_true rfl) dMo_writeIn_20 (fun H locs hP hD hS => ?_)
  have hP : va_P D vwCl [(qm, .inr (9, [.int cd, .int (nI n), .ref qmr, .int (nI 2), .int (nI n), .ref qmc, .int (nI 0), .ref qmb, .int (nI 0), .int (nI dm), .ref qml])), (qmr, .inl (cJ, 1024, .inr (.inl xs))), (qml, .inl (cJ, 1024, .inr (.inl lm))), (qmc, .inl (cJ, 1024, .inr (.inl ys))), (qmb, .inl (cI, 10400, .inl mm))] H := hP
  have hD : va_D A [(qm, .inr (9, [.int cd, .int (nI n), .ref qmr, .int (nI 2), .int (nI n), .ref qmc, .int (nI 0), .ref qmb, .int (nI 0), .int (nI dm), .ref qml])), (qmr, .inl (cJ, 1024, .inr (.inl xs))), (qml, .inl (cJ, 1024, .inr (.inl lm))), (qmc, .inl (cJ, 1024, .inr (.inl ys))), (qmb, .inl (cI, 10400, .inl mm))] := hD
  refine lv_iconst (v := nI 0) hx hb dMo_writeIn_23 (by decide) ?_
  refine lv_istore_n (lv' := [(2, .int (nI 0)), (0, .ref qm), (1, .int (nI 2))]) hx hb dMo_writeIn_24 rfl hl (by decide) rfl (fun ls hl => ?_)
  have lpc : ∀ (k_lpc : Nat) (i : Nat) (y1 : Nat → Int64), (i ≤ n) → (∀ j, j < i → y1 j = xs j) → (n - i < k_lpc) → ∀ (H : Heap) (locs : List Loc) (ls : Array Slot), va_P D vwCl [(qm, .inr (9, [.int cd, .int (nI n), .ref qmr, .int (nI 2), .int (nI n), .ref qmc, .int (nI 0), .ref qmb, .int (nI 0), .int (nI dm), .ref qml])), (qmr, .inl (cJ, 1024, .inr (.inl xs))), (qml, .inl (cJ, 1024, .inr (.inl lm))), (qmc, .inl (cJ, 1024, .inr (.inl y1))), (qmb, .inl (cI, 10400, .inl mm))] H → va_D A [(qm, .inr (9, [.int cd, .int (nI n), .ref qmr, .int (nI 2), .int (nI n), .ref qmc, .int (nI 0), .ref qmb, .int (nI 0), .int (nI dm), .ref qml])), (qmr, .inl (cJ, 1024, .inr (.inl xs))), (qml, .inl (cJ, 1024, .inr (.inl lm))), (qmc, .inl (cJ, 1024, .inr (.inl y1))), (qmb, .inl (cI, 10400, .inl mm))] → va_S A s.heap H locs → lv_has ls 6 [(0, .ref qm), (1, .int (nI 2)), (2, .int (nI i))] → W p l e ({ frames := 5, cells := 0, slots := 0, locals := 150 }) s m ([.ref qm, .int (nI 2)].toArray) below meth c H locs (0) (0) Q (F0 m 25 ls []) := by
    intro k_lpc
    induction k_lpc with
    | zero => intro i y1 c1 c2 hfu; exact absurd hfu (by omega)
    | succ k_lpc ih_lpc =>
      intro i y1 c1 c2 hfu H locs ls hP hD hS hl
      refine lv_iload_n hx hb dMo_writeIn_25 rfl (lv_at hl 2 rfl) ?_
      refine lv_aload_n hx hb dMo_writeIn_26 rfl (lv_at hl 0 rfl) ?_
      refine va_get (D := D) (ci := 9) (v := .int (nI n)) (C := "ColumnFormsModel") (T := TMo) (N := 11) hx hb hts inMo hown hK hP 0 rfl rfl 1 (by decide) (hts _ tw_590) (fun _ h9 => h9) rfl dMo_writeIn_27 ?_
      refine lv_icmp_ge (tgt := 51) hx hb dMo_writeIn_30 (by decide) (fun c30 => ?_) (fun c30 => ?_)
      · have c30 : n ≤ i := (nI_leI (by omega) (by omega)).mp c30
        refine lv_iload_n hx hb dMo_writeIn_51 rfl (lv_at hl 1 rfl) ?_
        refine lv_if_ne (tgt := 86) hx hb dMo_writeIn_52 (by decide) (fun c52 => ?_) (fun c52 => ?_)
        · have c52 : ¬ 2 = 0 := fun h => c52 ((nI_eq (b := 0) (by omega) (by omega)).mpr h)
          refine lv_iload_n hx hb dMo_writeIn_86 rfl (lv_at hl 1 rfl) ?_
          refine lv_iconst (v := nI 1) hx hb dMo_writeIn_87 (by decide) ?_
          refine lv_icmp_ne (tgt := 159) hx hb dMo_writeIn_88 (by decide) (fun c88 => ?_) (fun c88 => ?_)
          · have c88 : ¬ 2 = 1 := fun h => c88 ((nI_eq (by omega) (by omega)).mpr h)
            refine lv_iload_n hx hb dMo_writeIn_159 rfl (lv_at hl 1 rfl) ?_
            refine lv_iconst (v := nI 2) hx hb dMo_writeIn_160 (by decide) ?_
            refine lv_icmp_ne (tgt := 171) hx hb dMo_writeIn_161 (by decide) (fun c161 => ?_) (fun c161 => ?_)
            · have c161 : ¬ 2 = 2 := fun h => c161 ((nI_eq (by omega) (by omega)).mpr h)
              exact absurd c161 (by decide)
            · have c161 : 2 = 2 := (nI_eq (by omega) (by omega)).mp c161
              refine lv_aload_n hx hb dMo_writeIn_164 rfl (lv_at hl 0 rfl) ?_
              refine kc_v (wc := [(qm, .inr (9, [.int cd, .int (nI n), .ref qmr, .int (nI 2), .int (nI n), .ref qmc, .int (nI 0), .ref qmb, .int (nI 0), .int (nI dm), .ref qml])), (qmr, .inl (cJ, 1024, .inr (.inl xs))), (qml, .inl (cJ, 1024, .inr (.inl lm))), (qmb, .inl (cI, 10400, .inl mm))]) (wr := [(qmc, .inl (cJ, 1024, .inr (.inl y1)))]) hP hD hS hA [0, 1, 2, 4] [3] rfl rfl (by decide) (by decide) (by decide) (fun hPc hDc => va_runV (As := []) (rest := []) ⟨hx, hb, hml, hown, hts⟩ (m_wList l D cJ cB cI cF qm cd n qmr (nI 2) n qmc qmb dm qml xs lm mm _ (hn0) (hn)) (cwV 0 hts (wsG_k tw_701 (wsG_k tw_703 (wsG_k tp_w23 (wsG_k tw_10 (wsG_c tw_704))))) rfl rfl rfl (by decide +kernel) ⟨Nat.le_of_ble_eq_true rfl, Nat.le_of_ble_eq_true rfl⟩) ⟨cf_blind, va_recv hK hPc (ci := 9) (q0 := 0) rfl rfl, cf_pre hPc hK hDc hWd⟩ rfl rfl hl.1 rfl (lv_room (Nat.le_of_ble_eq_true rfl)) dMo_writeIn_165 ⟨Nat.le_of_ble_eq_true rfl, Nat.le_of_ble_eq_true rfl⟩) (fun u H locs hw hP hD hS => ?_)
              obtain ⟨bq, s1, b1, m1, B1, d9, l9⟩ := u
              obtain ⟨e1, e2, e3, e4, e5, -⟩ := hw
              have e1 : s1 = (bq + 7) / 8 := e1
              have e2 : b1 = bq % 8 := e2
              have e3 : mB m1 bq B1 := e3
              have e4 : lL xs n bq B1 := e4
              have e5 : bq ≤ 81936 := e5
              have hP : va_P D vwCl [(qmc, .inl (cJ, 1024, .inr (.inl y1))), (qm, .inr (9, [.int cd, .int (nI n), .ref qmr, .int (nI 2), .int (nI n), .ref qmc, .int (nI s1), .ref qmb, .int (nI b1), .int (nI d9), .ref qml])), (qmr, .inl (cJ, 1024, .inr (.inl xs))), (qml, .inl (cJ, 1024, .inr (.inl l9))), (qmb, .inl (cI, 10400, .inl m1))] H := hP
              have hD : va_D A [(qmc, .inl (cJ, 1024, .inr (.inl y1))), (qm, .inr (9, [.int cd, .int (nI n), .ref qmr, .int (nI 2), .int (nI n), .ref qmc, .int (nI s1), .ref qmb, .int (nI b1), .int (nI d9), .ref qml])), (qmr, .inl (cJ, 1024, .inr (.inl xs))), (qml, .inl (cJ, 1024, .inr (.inl l9))), (qmb, .inl (cI, 10400, .inl m1))] := hD
              refine lv_goto (tgt := 187) hx hb dMo_writeIn_168 (by decide) ?_
              refine lv_aload_n hx hb dMo_writeIn_187 rfl (lv_at hl 0 rfl) ?_
              refine va_get (D := D) (ci := 9) (v := .int (nI s1)) (C := "ColumnFormsModel") (T := TMo) (N := 11) hx hb hts inMo hown hK hP 1 rfl rfl 6 (by decide) (hts _ tw_595) (fun _ h9 => h9) rfl dMo_writeIn_188 ?_
              exact hret (nI s1) (bq, s1, b1, m1, B1, d9, l9, y1) _ _ _ _ _ _ ⟨rfl, e1, e2, e3, e4, e5, fun j hj => c2 j (by omega), trivial⟩ (hP.sub [1, 2, 3, 0, 4] rfl) (hD.sub [1, 2, 3, 0, 4] (by decide) rfl) hS (Nat.le_of_ble_eq_true rfl) (Nat.le_of_ble_eq_true rfl) dMo_writeIn_191
          · have c88 : 2 = 1 := (nI_eq (by omega) (by omega)).mp c88
            exact absurd c88 (by decide)
        · have c52 : 2 = 0 := (nI_eq (b := 0) (by omega) (by omega)).mp c52
          exact absurd c52 (by decide)
      · have c30 : ¬ n ≤ i := fun h => c30 ((nI_leI (by omega) (by omega)).mpr h)
        refine lv_aload_n hx hb dMo_writeIn_33 rfl (lv_at hl 0 rfl) ?_
        refine va_get (D := D) (ci := 9) (v := .ref qmc) (C := "ColumnFormsModel") (T := TMo) (N := 11) hx hb hts inMo hown hK hP 0 rfl rfl 5 (by decide) (hts _ tw_594) (fun _ h9 => h9) rfl dMo_writeIn_34 ?_
        refine lv_iload_n hx hb dMo_writeIn_37 rfl (lv_at hl 2 rfl) ?_
        refine lv_aload_n hx hb dMo_writeIn_38 rfl (lv_at hl 0 rfl) ?_
        refine va_get (D := D) (ci := 9) (v := .ref qmr) (C := "ColumnFormsModel") (T := TMo) (N := 11) hx hb hts inMo hown hK hP 0 rfl rfl 2 (by decide) (hts _ tw_591) (fun _ h9 => h9) rfl dMo_writeIn_39 ?_
        refine lv_iload_n hx hb dMo_writeIn_42 rfl (lv_at hl 2 rfl) ?_
        refine va_lald hx hb hK hP 1 0 rfl rfl (vp_in_nI (by omega) (by omega)) dMo_writeIn_43 ?_
        refine tp_l (show (xs (nI i).toNatClampNeg) = (xs i) from congrArg _ (nI_clamp (by omega))) ?_
        refine va_last hx hb hK hP hD hS 3 0 rfl rfl (vp_in_nI (by omega) (by omega)) dMo_writeIn_44 (fun H locs hP hD hS => ?_)
        rw [nI_clamp (by omega)] at hP hD
        have hP : va_P D vwCl [(qm, .inr (9, [.int cd, .int (nI n), .ref qmr, .int (nI 2), .int (nI n), .ref qmc, .int (nI 0), .ref qmb, .int (nI 0), .int (nI dm), .ref qml])), (qmr, .inl (cJ, 1024, .inr (.inl xs))), (qml, .inl (cJ, 1024, .inr (.inl lm))), (qmc, .inl (cJ, 1024, .inr (.inl (vp_updL y1 i (xs i))))), (qmb, .inl (cI, 10400, .inl mm))] H := hP
        have hD : va_D A [(qm, .inr (9, [.int cd, .int (nI n), .ref qmr, .int (nI 2), .int (nI n), .ref qmc, .int (nI 0), .ref qmb, .int (nI 0), .int (nI dm), .ref qml])), (qmr, .inl (cJ, 1024, .inr (.inl xs))), (qml, .inl (cJ, 1024, .inr (.inl lm))), (qmc, .inl (cJ, 1024, .inr (.inl (vp_updL y1 i (xs i))))), (qmb, .inl (cI, 10400, .inl mm))] := hD
        refine lv_iinc (v := nI (i + 1)) (lv' := [(2, .int (nI (i + 1))), (0, .ref qm), (1, .int (nI 2))]) hx hb dMo_writeIn_45 hl (k := 2) rfl (by rw [show (Int32.ofInt 1) = nI 1 from by decide]; exact nI_add _ _) (by decide) rfl (fun ls hl => ?_)
        refine lv_goto (tgt := 25) hx hb dMo_writeIn_48 (by decide) ?_
        exact ih_lpc (i + 1) (vp_updL y1 i (xs i)) (by omega) (cp_all c2) (by omega) _ _ _ (hP.sub [0, 1, 2, 3, 4] rfl) (hD.sub [0, 1, 2, 3, 4] (by decide) rfl) hS (lv_sub hl [1, 2, 0] rfl)
  exact lpc (n - 0 + 1) 0 ys (Nat.zero_le n) (fun j hj => absurd hj (by omega)) (by omega) _ _ _ (hP.sub [0, 1, 2, 3, 4] rfl) (hD.sub [0, 1, 2, 3, 4] (by decide) rfl) hS (lv_sub hl [1, 2, 0] rfl)

set_option maxHeartbeats 4000000 in
set_option maxRecDepth 100000 in
theorem m_wIn_3 (l : Launch) (D : va_G) (cJ cB cI cF : ClassId) (qm : Nat) (cd : Int32) (n : Nat) (qmr : Nat) (fm : Int32) (cm : Nat) (qmc : Nat) (szv : Nat) (qmb : Nat) (btv : Nat) (dm : Nat) (qml : Nat) (xs : Nat → Int64) (lm : Nat → Int64) (ys : Nat → Int64) (mm : Nat → Int32) (sz : Nat) (hn0 : 0 < n) (hn : n ≤ 1024) : Met l yMo_writeIn (Cond.code yMo_writeIn cMo_writeIn 6 (some .int) :: wsG) ({ frames := 5, cells := 0, slots := 0, locals := 150 }) (va_Pc [.ref qm, .int (nI 3)] (cfPre D (cfT cJ cB cI cF) [(qm, .inr (9, [.int cd, .int (nI n), .ref qmr, .int fm, .int (nI cm), .ref qmc, .int (nI szv), .ref qmb, .int (nI btv), .int (nI dm), .ref qml])), (qmr, .inl (cJ, 1024, .inr (.inl xs))), (qml, .inl (cJ, 1024, .inr (.inl lm))), (qmc, .inl (cJ, 1024, .inr (.inl ys))), (qmb, .inl (cI, 10400, .inl mm))] sz)) (va_Qi (fun (r : Int32) (u : Nat × Nat × Nat × (Nat → Int32) × (Nat → Bool) × Nat × (Nat → Int64) × (Nat → Int64)) => r = nI u.2.1 ∧ (u.2.1 = (u.1 + 7) / 8) ∧ (u.2.2.1 = u.1 % 8) ∧ (mB u.2.2.2.1 u.1 u.2.2.2.2.1) ∧ (lF 3 xs n u.1 u.2.2.2.2.1) ∧ (u.1 ≤ 81936) ∧ (∀ j, j < n → u.2.2.2.2.2.2.2 j = xs j) ∧ True) (fun u t => cfPost D ((fun (u : Nat × Nat × Nat × (Nat → Int32) × (Nat → Bool) × Nat × (Nat → Int64) × (Nat → Int64)) => [(qm, .inr (9, [.int cd, .int (nI n), .ref qmr, .int (nI 3), .int (nI n), .ref qmc, .int (nI u.2.1), .ref qmb, .int (nI u.2.2.1), .int (nI u.2.2.2.2.2.1), .ref qml])), (qmr, .inl (cJ, 1024, .inr (.inl xs))), (qml, .inl (cJ, 1024, .inr (.inl u.2.2.2.2.2.2.1))), (qmc, .inl (cJ, 1024, .inr (.inl u.2.2.2.2.2.2.2))), (qmb, .inl (cI, 10400, .inl u.2.2.2.1))]) u) (va_A [(qm, .inr (9, [.int cd, .int (nI n), .ref qmr, .int fm, .int (nI cm), .ref qmc, .int (nI szv), .ref qmb, .int (nI btv), .int (nI dm), .ref qml])), (qmr, .inl (cJ, 1024, .inr (.inl xs))), (qml, .inl (cJ, 1024, .inr (.inl lm))), (qmc, .inl (cJ, 1024, .inr (.inl ys))), (qmb, .inl (cI, 10400, .inl mm))] sz) t) (va_A [(qm, .inr (9, [.int cd, .int (nI n), .ref qmr, .int fm, .int (nI cm), .ref qmc, .int (nI szv), .ref qmb, .int (nI btv), .int (nI dm), .ref qml])), (qmr, .inl (cJ, 1024, .inr (.inl xs))), (qml, .inl (cJ, 1024, .inr (.inl lm))), (qmc, .inl (cJ, 1024, .inr (.inl ys))), (qmb, .inl (cI, 10400, .inl mm))] sz)) 0 0 (va_A [(qm, .inr (9, [.int cd, .int (nI n), .ref qmr, .int fm, .int (nI cm), .ref qmc, .int (nI szv), .ref qmb, .int (nI btv), .int (nI dm), .ref qml])), (qmr, .inl (cJ, 1024, .inr (.inl xs))), (qml, .inl (cJ, 1024, .inr (.inl lm))), (qmc, .inl (cJ, 1024, .inr (.inl ys))), (qmb, .inl (cI, 10400, .inl mm))] sz) := by
  refine met_i (cc := cMo_writeIn) (maxL := 6) (S := Nat × Nat × Nat × (Nat → Int32) × (Nat → Bool) × Nat × (Nat → Int64) × (Nat → Int64)) (D := D) (wO := fun (u : Nat × Nat × Nat × (Nat → Int32) × (Nat → Bool) × Nat × (Nat → Int64) × (Nat → Int64)) => [(qm, .inr (9, [.int cd, .int (nI n), .ref qmr, .int (nI 3), .int (nI n), .ref qmc, .int (nI u.2.1), .ref qmb, .int (nI u.2.2.1), .int (nI u.2.2.2.2.2.1), .ref qml])), (qmr, .inl (cJ, 1024, .inr (.inl xs))), (qml, .inl (cJ, 1024, .inr (.inl u.2.2.2.2.2.2.1))), (qmc, .inl (cJ, 1024, .inr (.inl u.2.2.2.2.2.2.2))), (qmb, .inl (cI, 10400, .inl u.2.2.2.1))]) (by decide) (Nat.le_of_ble_eq_true rfl) ?_
  intro p e s m below meth c hx hb hml hown hts hlocks hin hWd A hA hsz hP hK hD hS Q hret ls hl
  have hown : s.vm.findClass "ColumnFormsModel" = some m.cls := hown
  have hl : lv_has ls 6 [(0, .ref qm), (1, .int (nI 3))] := hl
  have hP : va_P D vwCl [(qm, .inr (9, [.int cd, .int (nI n), .ref qmr, .int fm, .int (nI cm), .ref qmc, .int (nI szv), .ref qmb, .int (nI btv), .int (nI dm), .ref qml])), (qmr, .inl (cJ, 1024, .inr (.inl xs))), (qml, .inl (cJ, 1024, .inr (.inl lm))), (qmc, .inl (cJ, 1024, .inr (.inl ys))), (qmb, .inl (cI, 10400, .inl mm))] s.heap := hP
  refine lv_aload_n hx hb dMo_writeIn_0 rfl (lv_at hl 0 rfl) ?_
  refine lv_iconst (v := nI 0) hx hb dMo_writeIn_1 (by decide) ?_
  refine va_put (D := D) (ci := 9) (v := .int (nI 0)) (ty := .int) (C := "ColumnFormsModel") (T := TMo) (N := 11) hx hb hts inMo tyMo tyMo_ok nmMo hown hK hP hD hS 0 rfl rfl 6 (by decide) (hts _ tw_595) (fun _ h9 => h9) rfl (by decide +kernel) rfl rfl (Nat.le_of_ble_eq_true rfl) dMo_writeIn_2 (fun H locs hP hD hS => ?_)
  have hP : va_P D vwCl [(qm, .inr (9, [.int cd, .int (nI n), .ref qmr, .int fm, .int (nI cm), .ref qmc, .int (nI 0), .ref qmb, .int (nI btv), .int (nI dm), .ref qml])), (qmr, .inl (cJ, 1024, .inr (.inl xs))), (qml, .inl (cJ, 1024, .inr (.inl lm))), (qmc, .inl (cJ, 1024, .inr (.inl ys))), (qmb, .inl (cI, 10400, .inl mm))] H := hP
  have hD : va_D A [(qm, .inr (9, [.int cd, .int (nI n), .ref qmr, .int fm, .int (nI cm), .ref qmc, .int (nI 0), .ref qmb, .int (nI btv), .int (nI dm), .ref qml])), (qmr, .inl (cJ, 1024, .inr (.inl xs))), (qml, .inl (cJ, 1024, .inr (.inl lm))), (qmc, .inl (cJ, 1024, .inr (.inl ys))), (qmb, .inl (cI, 10400, .inl mm))] := hD
  refine lv_aload_n hx hb dMo_writeIn_5 rfl (lv_at hl 0 rfl) ?_
  refine lv_iconst (v := nI 0) hx hb dMo_writeIn_6 (by decide) ?_
  refine va_put (D := D) (ci := 9) (v := .int (nI 0)) (ty := .int) (C := "ColumnFormsModel") (T := TMo) (N := 11) hx hb hts inMo tyMo tyMo_ok nmMo hown hK hP hD hS 0 rfl rfl 8 (by decide) (hts _ tw_597) (fun _ h9 => h9) rfl (by decide +kernel) rfl rfl (Nat.le_of_ble_eq_true rfl) dMo_writeIn_7 (fun H locs hP hD hS => ?_)
  have hP : va_P D vwCl [(qm, .inr (9, [.int cd, .int (nI n), .ref qmr, .int fm, .int (nI cm), .ref qmc, .int (nI 0), .ref qmb, .int (nI 0), .int (nI dm), .ref qml])), (qmr, .inl (cJ, 1024, .inr (.inl xs))), (qml, .inl (cJ, 1024, .inr (.inl lm))), (qmc, .inl (cJ, 1024, .inr (.inl ys))), (qmb, .inl (cI, 10400, .inl mm))] H := hP
  have hD : va_D A [(qm, .inr (9, [.int cd, .int (nI n), .ref qmr, .int fm, .int (nI cm), .ref qmc, .int (nI 0), .ref qmb, .int (nI 0), .int (nI dm), .ref qml])), (qmr, .inl (cJ, 1024, .inr (.inl xs))), (qml, .inl (cJ, 1024, .inr (.inl lm))), (qmc, .inl (cJ, 1024, .inr (.inl ys))), (qmb, .inl (cI, 10400, .inl mm))] := hD
  refine lv_aload_n hx hb dMo_writeIn_10 rfl (lv_at hl 0 rfl) ?_
  refine lv_iload_n hx hb dMo_writeIn_11 rfl (lv_at hl 1 rfl) ?_
  refine va_put (D := D) (ci := 9) (v := .int (nI 3)) (ty := .int) (C := "ColumnFormsModel") (T := TMo) (N := 11) hx hb hts inMo tyMo tyMo_ok nmMo hown hK hP hD hS 0 rfl rfl 3 (by decide) (hts _ tw_592) (fun _ h9 => h9) rfl (by decide +kernel) rfl rfl (Nat.le_of_ble_eq_true rfl) dMo_writeIn_12 (fun H locs hP hD hS => ?_)
  have hP : va_P D vwCl [(qm, .inr (9, [.int cd, .int (nI n), .ref qmr, .int (nI 3), .int (nI cm), .ref qmc, .int (nI 0), .ref qmb, .int (nI 0), .int (nI dm), .ref qml])), (qmr, .inl (cJ, 1024, .inr (.inl xs))), (qml, .inl (cJ, 1024, .inr (.inl lm))), (qmc, .inl (cJ, 1024, .inr (.inl ys))), (qmb, .inl (cI, 10400, .inl mm))] H := hP
  have hD : va_D A [(qm, .inr (9, [.int cd, .int (nI n), .ref qmr, .int (nI 3), .int (nI cm), .ref qmc, .int (nI 0), .ref qmb, .int (nI 0), .int (nI dm), .ref qml])), (qmr, .inl (cJ, 1024, .inr (.inl xs))), (qml, .inl (cJ, 1024, .inr (.inl lm))), (qmc, .inl (cJ, 1024, .inr (.inl ys))), (qmb, .inl (cI, 10400, .inl mm))] := hD
  refine lv_aload_n hx hb dMo_writeIn_15 rfl (lv_at hl 0 rfl) ?_
  refine lv_aload_n hx hb dMo_writeIn_16 rfl (lv_at hl 0 rfl) ?_
  refine va_get (D := D) (ci := 9) (v := .int (nI n)) (C := "ColumnFormsModel") (T := TMo) (N := 11) hx hb hts inMo hown hK hP 0 rfl rfl 1 (by decide) (hts _ tw_590) (fun _ h9 => h9) rfl dMo_writeIn_17 ?_
  refine va_put (D := D) (ci := 9) (v := .int (nI n)) (ty := .int) (C := "ColumnFormsModel") (T := TMo) (N := 11) hx hb hts inMo tyMo tyMo_ok nmMo hown hK hP hD hS 0 rfl rfl 4 (by decide) (hts _ tw_593) (fun _ h9 => h9) rfl (by decide +kernel) rfl rfl (Nat.le_of_ble_eq_true rfl) dMo_writeIn_20 (fun H locs hP hD hS => ?_)
  have hP : va_P D vwCl [(qm, .inr (9, [.int cd, .int (nI n), .ref qmr, .int (nI 3), .int (nI n), .ref qmc, .int (nI 0), .ref qmb, .int (nI 0), .int (nI dm), .ref qml])), (qmr, .inl (cJ, 1024, .inr (.inl xs))), (qml, .inl (cJ, 1024, .inr (.inl lm))), (qmc, .inl (cJ, 1024, .inr (.inl ys))), (qmb, .inl (cI, 10400, .inl mm))] H := hP
  have hD : va_D A [(qm, .inr (9, [.int cd, .int (nI n), .ref qmr, .int (nI 3), .int (nI n), .ref qmc, .int (nI 0), .ref qmb, .int (nI 0), .int (nI dm), .ref qml])), (qmr, .inl (cJ, 1024, .inr (.inl xs))), (qml, .inl (cJ, 1024, .inr (.inl lm))), (qmc, .inl (cJ, 1024, .inr (.inl ys))), (qmb, .inl (cI, 10400, .inl mm))] := hD
  refine lv_iconst (v := nI 0) hx hb dMo_writeIn_23 (by decide) ?_
  refine lv_istore_n (lv' := [(2, .int (nI 0)), (0, .ref qm), (1, .int (nI 3))]) hx hb dMo_writeIn_24 rfl hl (by decide) rfl (fun ls hl => ?_)
  have lpc : ∀ (k_lpc : Nat) (i : Nat) (y1 : Nat → Int64), (i ≤ n) → (∀ j, j < i → y1 j = xs j) → (n - i < k_lpc) → ∀ (H : Heap) (locs : List Loc) (ls : Array Slot), va_P D vwCl [(qm, .inr (9, [.int cd, .int (nI n), .ref qmr, .int (nI 3), .int (nI n), .ref qmc, .int (nI 0), .ref qmb, .int (nI 0), .int (nI dm), .ref qml])), (qmr, .inl (cJ, 1024, .inr (.inl xs))), (qml, .inl (cJ, 1024, .inr (.inl lm))), (qmc, .inl (cJ, 1024, .inr (.inl y1))), (qmb, .inl (cI, 10400, .inl mm))] H → va_D A [(qm, .inr (9, [.int cd, .int (nI n), .ref qmr, .int (nI 3), .int (nI n), .ref qmc, .int (nI 0), .ref qmb, .int (nI 0), .int (nI dm), .ref qml])), (qmr, .inl (cJ, 1024, .inr (.inl xs))), (qml, .inl (cJ, 1024, .inr (.inl lm))), (qmc, .inl (cJ, 1024, .inr (.inl y1))), (qmb, .inl (cI, 10400, .inl mm))] → va_S A s.heap H locs → lv_has ls 6 [(0, .ref qm), (1, .int (nI 3)), (2, .int (nI i))] → W p l e ({ frames := 5, cells := 0, slots := 0, locals := 150 }) s m ([.ref qm, .int (nI 3)].toArray) below meth c H locs (0) (0) Q (F0 m 25 ls []) := by
    intro k_lpc
    induction k_lpc with
    | zero => intro i y1 c1 c2 hfu; exact absurd hfu (by omega)
    | succ k_lpc ih_lpc =>
      intro i y1 c1 c2 hfu H locs ls hP hD hS hl
      refine lv_iload_n hx hb dMo_writeIn_25 rfl (lv_at hl 2 rfl) ?_
      refine lv_aload_n hx hb dMo_writeIn_26 rfl (lv_at hl 0 rfl) ?_
      refine va_get (D := D) (ci := 9) (v := .int (nI n)) (C := "ColumnFormsModel") (T := TMo) (N := 11) hx hb hts inMo hown hK hP 0 rfl rfl 1 (by decide) (hts _ tw_590) (fun _ h9 => h9) rfl dMo_writeIn_27 ?_
      refine lv_icmp_ge (tgt := 51) hx hb dMo_writeIn_30 (by decide) (fun c30 => ?_) (fun c30 => ?_)
      · have c30 : n ≤ i := (nI_leI (by omega) (by omega)).mp c30
        refine lv_iload_n hx hb dMo_writeIn_51 rfl (lv_at hl 1 rfl) ?_
        refine lv_if_ne (tgt := 86) hx hb dMo_writeIn_52 (by decide) (fun c52 => ?_) (fun c52 => ?_)
        · have c52 : ¬ 3 = 0 := fun h => c52 ((nI_eq (b := 0) (by omega) (by omega)).mpr h)
          refine lv_iload_n hx hb dMo_writeIn_86 rfl (lv_at hl 1 rfl) ?_
          refine lv_iconst (v := nI 1) hx hb dMo_writeIn_87 (by decide) ?_
          refine lv_icmp_ne (tgt := 159) hx hb dMo_writeIn_88 (by decide) (fun c88 => ?_) (fun c88 => ?_)
          · have c88 : ¬ 3 = 1 := fun h => c88 ((nI_eq (by omega) (by omega)).mpr h)
            refine lv_iload_n hx hb dMo_writeIn_159 rfl (lv_at hl 1 rfl) ?_
            refine lv_iconst (v := nI 2) hx hb dMo_writeIn_160 (by decide) ?_
            refine lv_icmp_ne (tgt := 171) hx hb dMo_writeIn_161 (by decide) (fun c161 => ?_) (fun c161 => ?_)
            · have c161 : ¬ 3 = 2 := fun h => c161 ((nI_eq (by omega) (by omega)).mpr h)
              refine lv_iload_n hx hb dMo_writeIn_171 rfl (lv_at hl 1 rfl) ?_
              refine lv_iconst (v := nI 3) hx hb dMo_writeIn_172 (by decide) ?_
              refine lv_icmp_ne (tgt := 183) hx hb dMo_writeIn_173 (by decide) (fun c173 => ?_) (fun c173 => ?_)
              · have c173 : ¬ 3 = 3 := fun h => c173 ((nI_eq (by omega) (by omega)).mpr h)
                exact absurd c173 (by decide)
              · have c173 : 3 = 3 := (nI_eq (by omega) (by omega)).mp c173
                refine lv_aload_n hx hb dMo_writeIn_176 rfl (lv_at hl 0 rfl) ?_
                refine kc_v (wc := [(qm, .inr (9, [.int cd, .int (nI n), .ref qmr, .int (nI 3), .int (nI n), .ref qmc, .int (nI 0), .ref qmb, .int (nI 0), .int (nI dm), .ref qml])), (qmr, .inl (cJ, 1024, .inr (.inl xs))), (qmb, .inl (cI, 10400, .inl mm))]) (wr := [(qml, .inl (cJ, 1024, .inr (.inl lm))), (qmc, .inl (cJ, 1024, .inr (.inl y1)))]) hP hD hS hA [0, 1, 4] [2, 3] rfl rfl (by decide) (by decide) (by decide) (fun hPc hDc => va_runV (As := []) (rest := []) ⟨hx, hb, hml, hown, hts⟩ (m_wRuns l D cJ cB cI cF qm cd n qmr (nI 3) n qmc qmb dm qml xs mm _ (hn0) (hn)) (cwV 0 hts (wsG_k tw_705 (wsG_k tw_707 (wsG_k tp_w24 (wsG_k tw_10 (wsG_c tw_708))))) rfl rfl rfl (by decide +kernel) ⟨Nat.le_of_ble_eq_true rfl, Nat.le_of_ble_eq_true rfl⟩) ⟨cf_blind, va_recv hK hPc (ci := 9) (q0 := 0) rfl rfl, cf_pre hPc hK hDc hWd⟩ rfl rfl hl.1 rfl (lv_room (Nat.le_of_ble_eq_true rfl)) dMo_writeIn_177 ⟨Nat.le_of_ble_eq_true rfl, Nat.le_of_ble_eq_true rfl⟩) (fun u H locs hw hP hD hS => ?_)
                obtain ⟨bq, s1, b1, m1, B1⟩ := u
                obtain ⟨e1, e2, e3, e4, e5, -⟩ := hw
                have e1 : s1 = (bq + 7) / 8 := e1
                have e2 : b1 = bq % 8 := e2
                have e3 : mB m1 bq B1 := e3
                have e4 : lR xs n bq B1 := e4
                have e5 : bq ≤ 81936 := e5
                have hP : va_P D vwCl [(qml, .inl (cJ, 1024, .inr (.inl lm))), (qmc, .inl (cJ, 1024, .inr (.inl y1))), (qm, .inr (9, [.int cd, .int (nI n), .ref qmr, .int (nI 3), .int (nI n), .ref qmc, .int (nI s1), .ref qmb, .int (nI b1), .int (nI dm), .ref qml])), (qmr, .inl (cJ, 1024, .inr (.inl xs))), (qmb, .inl (cI, 10400, .inl m1))] H := hP
                have hD : va_D A [(qml, .inl (cJ, 1024, .inr (.inl lm))), (qmc, .inl (cJ, 1024, .inr (.inl y1))), (qm, .inr (9, [.int cd, .int (nI n), .ref qmr, .int (nI 3), .int (nI n), .ref qmc, .int (nI s1), .ref qmb, .int (nI b1), .int (nI dm), .ref qml])), (qmr, .inl (cJ, 1024, .inr (.inl xs))), (qmb, .inl (cI, 10400, .inl m1))] := hD
                refine lv_goto (tgt := 187) hx hb dMo_writeIn_180 (by decide) ?_
                refine lv_aload_n hx hb dMo_writeIn_187 rfl (lv_at hl 0 rfl) ?_
                refine va_get (D := D) (ci := 9) (v := .int (nI s1)) (C := "ColumnFormsModel") (T := TMo) (N := 11) hx hb hts inMo hown hK hP 2 rfl rfl 6 (by decide) (hts _ tw_595) (fun _ h9 => h9) rfl dMo_writeIn_188 ?_
                exact hret (nI s1) (bq, s1, b1, m1, B1, dm, lm, y1) _ _ _ _ _ _ ⟨rfl, e1, e2, e3, e4, e5, fun j hj => c2 j (by omega), trivial⟩ (hP.sub [2, 3, 0, 1, 4] rfl) (hD.sub [2, 3, 0, 1, 4] (by decide) rfl) hS (Nat.le_of_ble_eq_true rfl) (Nat.le_of_ble_eq_true rfl) dMo_writeIn_191
            · have c161 : 3 = 2 := (nI_eq (by omega) (by omega)).mp c161
              exact absurd c161 (by decide)
          · have c88 : 3 = 1 := (nI_eq (by omega) (by omega)).mp c88
            exact absurd c88 (by decide)
        · have c52 : 3 = 0 := (nI_eq (b := 0) (by omega) (by omega)).mp c52
          exact absurd c52 (by decide)
      · have c30 : ¬ n ≤ i := fun h => c30 ((nI_leI (by omega) (by omega)).mpr h)
        refine lv_aload_n hx hb dMo_writeIn_33 rfl (lv_at hl 0 rfl) ?_
        refine va_get (D := D) (ci := 9) (v := .ref qmc) (C := "ColumnFormsModel") (T := TMo) (N := 11) hx hb hts inMo hown hK hP 0 rfl rfl 5 (by decide) (hts _ tw_594) (fun _ h9 => h9) rfl dMo_writeIn_34 ?_
        refine lv_iload_n hx hb dMo_writeIn_37 rfl (lv_at hl 2 rfl) ?_
        refine lv_aload_n hx hb dMo_writeIn_38 rfl (lv_at hl 0 rfl) ?_
        refine va_get (D := D) (ci := 9) (v := .ref qmr) (C := "ColumnFormsModel") (T := TMo) (N := 11) hx hb hts inMo hown hK hP 0 rfl rfl 2 (by decide) (hts _ tw_591) (fun _ h9 => h9) rfl dMo_writeIn_39 ?_
        refine lv_iload_n hx hb dMo_writeIn_42 rfl (lv_at hl 2 rfl) ?_
        refine va_lald hx hb hK hP 1 0 rfl rfl (vp_in_nI (by omega) (by omega)) dMo_writeIn_43 ?_
        refine tp_l (show (xs (nI i).toNatClampNeg) = (xs i) from congrArg _ (nI_clamp (by omega))) ?_
        refine va_last hx hb hK hP hD hS 3 0 rfl rfl (vp_in_nI (by omega) (by omega)) dMo_writeIn_44 (fun H locs hP hD hS => ?_)
        rw [nI_clamp (by omega)] at hP hD
        have hP : va_P D vwCl [(qm, .inr (9, [.int cd, .int (nI n), .ref qmr, .int (nI 3), .int (nI n), .ref qmc, .int (nI 0), .ref qmb, .int (nI 0), .int (nI dm), .ref qml])), (qmr, .inl (cJ, 1024, .inr (.inl xs))), (qml, .inl (cJ, 1024, .inr (.inl lm))), (qmc, .inl (cJ, 1024, .inr (.inl (vp_updL y1 i (xs i))))), (qmb, .inl (cI, 10400, .inl mm))] H := hP
        have hD : va_D A [(qm, .inr (9, [.int cd, .int (nI n), .ref qmr, .int (nI 3), .int (nI n), .ref qmc, .int (nI 0), .ref qmb, .int (nI 0), .int (nI dm), .ref qml])), (qmr, .inl (cJ, 1024, .inr (.inl xs))), (qml, .inl (cJ, 1024, .inr (.inl lm))), (qmc, .inl (cJ, 1024, .inr (.inl (vp_updL y1 i (xs i))))), (qmb, .inl (cI, 10400, .inl mm))] := hD
        refine lv_iinc (v := nI (i + 1)) (lv' := [(2, .int (nI (i + 1))), (0, .ref qm), (1, .int (nI 3))]) hx hb dMo_writeIn_45 hl (k := 2) rfl (by rw [show (Int32.ofInt 1) = nI 1 from by decide]; exact nI_add _ _) (by decide) rfl (fun ls hl => ?_)
        refine lv_goto (tgt := 25) hx hb dMo_writeIn_48 (by decide) ?_
        exact ih_lpc (i + 1) (vp_updL y1 i (xs i)) (by omega) (cp_all c2) (by omega) _ _ _ (hP.sub [0, 1, 2, 3, 4] rfl) (hD.sub [0, 1, 2, 3, 4] (by decide) rfl) hS (lv_sub hl [1, 2, 0] rfl)
  exact lpc (n - 0 + 1) 0 ys (Nat.zero_le n) (fun j hj => absurd hj (by omega)) (by omega) _ _ _ (hP.sub [0, 1, 2, 3, 4] rfl) (hD.sub [0, 1, 2, 3, 4] (by decide) rfl) hS (lv_sub hl [1, 2, 0] rfl)

set_option maxHeartbeats 4000000 in
set_option maxRecDepth 100000 in
theorem m_wIn_4 (l : Launch) (D : va_G) (cJ cB cI cF : ClassId) (qm : Nat) (cd : Int32) (n : Nat) (qmr : Nat) (fm : Int32) (cm : Nat) (qmc : Nat) (szv : Nat) (qmb : Nat) (btv : Nat) (dm : Nat) (qml : Nat) (xs : Nat → Int64) (lm : Nat → Int64) (ys : Nat → Int64) (mm : Nat → Int32) (sz : Nat) (hn0 : 0 < n) (hn : n ≤ 1024) : Met l yMo_writeIn (Cond.code yMo_writeIn cMo_writeIn 6 (some .int) :: wsG) ({ frames := 5, cells := 0, slots := 0, locals := 150 }) (va_Pc [.ref qm, .int (nI 4)] (cfPre D (cfT cJ cB cI cF) [(qm, .inr (9, [.int cd, .int (nI n), .ref qmr, .int fm, .int (nI cm), .ref qmc, .int (nI szv), .ref qmb, .int (nI btv), .int (nI dm), .ref qml])), (qmr, .inl (cJ, 1024, .inr (.inl xs))), (qml, .inl (cJ, 1024, .inr (.inl lm))), (qmc, .inl (cJ, 1024, .inr (.inl ys))), (qmb, .inl (cI, 10400, .inl mm))] sz)) (va_Qi (fun (r : Int32) (u : Nat × Nat × Nat × (Nat → Int32) × (Nat → Bool) × Nat × (Nat → Int64) × (Nat → Int64)) => r = nI u.2.1 ∧ (u.2.1 = (u.1 + 7) / 8) ∧ (u.2.2.1 = u.1 % 8) ∧ (mB u.2.2.2.1 u.1 u.2.2.2.2.1) ∧ (lF 4 xs n u.1 u.2.2.2.2.1) ∧ (u.1 ≤ 81936) ∧ (∀ j, j < n → u.2.2.2.2.2.2.2 j = xs j) ∧ True) (fun u t => cfPost D ((fun (u : Nat × Nat × Nat × (Nat → Int32) × (Nat → Bool) × Nat × (Nat → Int64) × (Nat → Int64)) => [(qm, .inr (9, [.int cd, .int (nI n), .ref qmr, .int (nI 4), .int (nI n), .ref qmc, .int (nI u.2.1), .ref qmb, .int (nI u.2.2.1), .int (nI u.2.2.2.2.2.1), .ref qml])), (qmr, .inl (cJ, 1024, .inr (.inl xs))), (qml, .inl (cJ, 1024, .inr (.inl u.2.2.2.2.2.2.1))), (qmc, .inl (cJ, 1024, .inr (.inl u.2.2.2.2.2.2.2))), (qmb, .inl (cI, 10400, .inl u.2.2.2.1))]) u) (va_A [(qm, .inr (9, [.int cd, .int (nI n), .ref qmr, .int fm, .int (nI cm), .ref qmc, .int (nI szv), .ref qmb, .int (nI btv), .int (nI dm), .ref qml])), (qmr, .inl (cJ, 1024, .inr (.inl xs))), (qml, .inl (cJ, 1024, .inr (.inl lm))), (qmc, .inl (cJ, 1024, .inr (.inl ys))), (qmb, .inl (cI, 10400, .inl mm))] sz) t) (va_A [(qm, .inr (9, [.int cd, .int (nI n), .ref qmr, .int fm, .int (nI cm), .ref qmc, .int (nI szv), .ref qmb, .int (nI btv), .int (nI dm), .ref qml])), (qmr, .inl (cJ, 1024, .inr (.inl xs))), (qml, .inl (cJ, 1024, .inr (.inl lm))), (qmc, .inl (cJ, 1024, .inr (.inl ys))), (qmb, .inl (cI, 10400, .inl mm))] sz)) 0 0 (va_A [(qm, .inr (9, [.int cd, .int (nI n), .ref qmr, .int fm, .int (nI cm), .ref qmc, .int (nI szv), .ref qmb, .int (nI btv), .int (nI dm), .ref qml])), (qmr, .inl (cJ, 1024, .inr (.inl xs))), (qml, .inl (cJ, 1024, .inr (.inl lm))), (qmc, .inl (cJ, 1024, .inr (.inl ys))), (qmb, .inl (cI, 10400, .inl mm))] sz) := by
  refine met_i (cc := cMo_writeIn) (maxL := 6) (S := Nat × Nat × Nat × (Nat → Int32) × (Nat → Bool) × Nat × (Nat → Int64) × (Nat → Int64)) (D := D) (wO := fun (u : Nat × Nat × Nat × (Nat → Int32) × (Nat → Bool) × Nat × (Nat → Int64) × (Nat → Int64)) => [(qm, .inr (9, [.int cd, .int (nI n), .ref qmr, .int (nI 4), .int (nI n), .ref qmc, .int (nI u.2.1), .ref qmb, .int (nI u.2.2.1), .int (nI u.2.2.2.2.2.1), .ref qml])), (qmr, .inl (cJ, 1024, .inr (.inl xs))), (qml, .inl (cJ, 1024, .inr (.inl u.2.2.2.2.2.2.1))), (qmc, .inl (cJ, 1024, .inr (.inl u.2.2.2.2.2.2.2))), (qmb, .inl (cI, 10400, .inl u.2.2.2.1))]) (by decide) (Nat.le_of_ble_eq_true rfl) ?_
  intro p e s m below meth c hx hb hml hown hts hlocks hin hWd A hA hsz hP hK hD hS Q hret ls hl
  have hown : s.vm.findClass "ColumnFormsModel" = some m.cls := hown
  have hl : lv_has ls 6 [(0, .ref qm), (1, .int (nI 4))] := hl
  have hP : va_P D vwCl [(qm, .inr (9, [.int cd, .int (nI n), .ref qmr, .int fm, .int (nI cm), .ref qmc, .int (nI szv), .ref qmb, .int (nI btv), .int (nI dm), .ref qml])), (qmr, .inl (cJ, 1024, .inr (.inl xs))), (qml, .inl (cJ, 1024, .inr (.inl lm))), (qmc, .inl (cJ, 1024, .inr (.inl ys))), (qmb, .inl (cI, 10400, .inl mm))] s.heap := hP
  refine lv_aload_n hx hb dMo_writeIn_0 rfl (lv_at hl 0 rfl) ?_
  refine lv_iconst (v := nI 0) hx hb dMo_writeIn_1 (by decide) ?_
  refine va_put (D := D) (ci := 9) (v := .int (nI 0)) (ty := .int) (C := "ColumnFormsModel") (T := TMo) (N := 11) hx hb hts inMo tyMo tyMo_ok nmMo hown hK hP hD hS 0 rfl rfl 6 (by decide) (hts _ tw_595) (fun _ h9 => h9) rfl (by decide +kernel) rfl rfl (Nat.le_of_ble_eq_true rfl) dMo_writeIn_2 (fun H locs hP hD hS => ?_)
  have hP : va_P D vwCl [(qm, .inr (9, [.int cd, .int (nI n), .ref qmr, .int fm, .int (nI cm), .ref qmc, .int (nI 0), .ref qmb, .int (nI btv), .int (nI dm), .ref qml])), (qmr, .inl (cJ, 1024, .inr (.inl xs))), (qml, .inl (cJ, 1024, .inr (.inl lm))), (qmc, .inl (cJ, 1024, .inr (.inl ys))), (qmb, .inl (cI, 10400, .inl mm))] H := hP
  have hD : va_D A [(qm, .inr (9, [.int cd, .int (nI n), .ref qmr, .int fm, .int (nI cm), .ref qmc, .int (nI 0), .ref qmb, .int (nI btv), .int (nI dm), .ref qml])), (qmr, .inl (cJ, 1024, .inr (.inl xs))), (qml, .inl (cJ, 1024, .inr (.inl lm))), (qmc, .inl (cJ, 1024, .inr (.inl ys))), (qmb, .inl (cI, 10400, .inl mm))] := hD
  refine lv_aload_n hx hb dMo_writeIn_5 rfl (lv_at hl 0 rfl) ?_
  refine lv_iconst (v := nI 0) hx hb dMo_writeIn_6 (by decide) ?_
  refine va_put (D := D) (ci := 9) (v := .int (nI 0)) (ty := .int) (C := "ColumnFormsModel") (T := TMo) (N := 11) hx hb hts inMo tyMo tyMo_ok nmMo hown hK hP hD hS 0 rfl rfl 8 (by decide) (hts _ tw_597) (fun _ h9 => h9) rfl (by decide +kernel) rfl rfl (Nat.le_of_ble_eq_true rfl) dMo_writeIn_7 (fun H locs hP hD hS => ?_)
  have hP : va_P D vwCl [(qm, .inr (9, [.int cd, .int (nI n), .ref qmr, .int fm, .int (nI cm), .ref qmc, .int (nI 0), .ref qmb, .int (nI 0), .int (nI dm), .ref qml])), (qmr, .inl (cJ, 1024, .inr (.inl xs))), (qml, .inl (cJ, 1024, .inr (.inl lm))), (qmc, .inl (cJ, 1024, .inr (.inl ys))), (qmb, .inl (cI, 10400, .inl mm))] H := hP
  have hD : va_D A [(qm, .inr (9, [.int cd, .int (nI n), .ref qmr, .int fm, .int (nI cm), .ref qmc, .int (nI 0), .ref qmb, .int (nI 0), .int (nI dm), .ref qml])), (qmr, .inl (cJ, 1024, .inr (.inl xs))), (qml, .inl (cJ, 1024, .inr (.inl lm))), (qmc, .inl (cJ, 1024, .inr (.inl ys))), (qmb, .inl (cI, 10400, .inl mm))] := hD
  refine lv_aload_n hx hb dMo_writeIn_10 rfl (lv_at hl 0 rfl) ?_
  refine lv_iload_n hx hb dMo_writeIn_11 rfl (lv_at hl 1 rfl) ?_
  refine va_put (D := D) (ci := 9) (v := .int (nI 4)) (ty := .int) (C := "ColumnFormsModel") (T := TMo) (N := 11) hx hb hts inMo tyMo tyMo_ok nmMo hown hK hP hD hS 0 rfl rfl 3 (by decide) (hts _ tw_592) (fun _ h9 => h9) rfl (by decide +kernel) rfl rfl (Nat.le_of_ble_eq_true rfl) dMo_writeIn_12 (fun H locs hP hD hS => ?_)
  have hP : va_P D vwCl [(qm, .inr (9, [.int cd, .int (nI n), .ref qmr, .int (nI 4), .int (nI cm), .ref qmc, .int (nI 0), .ref qmb, .int (nI 0), .int (nI dm), .ref qml])), (qmr, .inl (cJ, 1024, .inr (.inl xs))), (qml, .inl (cJ, 1024, .inr (.inl lm))), (qmc, .inl (cJ, 1024, .inr (.inl ys))), (qmb, .inl (cI, 10400, .inl mm))] H := hP
  have hD : va_D A [(qm, .inr (9, [.int cd, .int (nI n), .ref qmr, .int (nI 4), .int (nI cm), .ref qmc, .int (nI 0), .ref qmb, .int (nI 0), .int (nI dm), .ref qml])), (qmr, .inl (cJ, 1024, .inr (.inl xs))), (qml, .inl (cJ, 1024, .inr (.inl lm))), (qmc, .inl (cJ, 1024, .inr (.inl ys))), (qmb, .inl (cI, 10400, .inl mm))] := hD
  refine lv_aload_n hx hb dMo_writeIn_15 rfl (lv_at hl 0 rfl) ?_
  refine lv_aload_n hx hb dMo_writeIn_16 rfl (lv_at hl 0 rfl) ?_
  refine va_get (D := D) (ci := 9) (v := .int (nI n)) (C := "ColumnFormsModel") (T := TMo) (N := 11) hx hb hts inMo hown hK hP 0 rfl rfl 1 (by decide) (hts _ tw_590) (fun _ h9 => h9) rfl dMo_writeIn_17 ?_
  refine va_put (D := D) (ci := 9) (v := .int (nI n)) (ty := .int) (C := "ColumnFormsModel") (T := TMo) (N := 11) hx hb hts inMo tyMo tyMo_ok nmMo hown hK hP hD hS 0 rfl rfl 4 (by decide) (hts _ tw_593) (fun _ h9 => h9) rfl (by decide +kernel) rfl rfl (Nat.le_of_ble_eq_true rfl) dMo_writeIn_20 (fun H locs hP hD hS => ?_)
  have hP : va_P D vwCl [(qm, .inr (9, [.int cd, .int (nI n), .ref qmr, .int (nI 4), .int (nI n), .ref qmc, .int (nI 0), .ref qmb, .int (nI 0), .int (nI dm), .ref qml])), (qmr, .inl (cJ, 1024, .inr (.inl xs))), (qml, .inl (cJ, 1024, .inr (.inl lm))), (qmc, .inl (cJ, 1024, .inr (.inl ys))), (qmb, .inl (cI, 10400, .inl mm))] H := hP
  have hD : va_D A [(qm, .inr (9, [.int cd, .int (nI n), .ref qmr, .int (nI 4), .int (nI n), .ref qmc, .int (nI 0), .ref qmb, .int (nI 0), .int (nI dm), .ref qml])), (qmr, .inl (cJ, 1024, .inr (.inl xs))), (qml, .inl (cJ, 1024, .inr (.inl lm))), (qmc, .inl (cJ, 1024, .inr (.inl ys))), (qmb, .inl (cI, 10400, .inl mm))] := hD
  refine lv_iconst (v := nI 0) hx hb dMo_writeIn_23 (by decide) ?_
  refine lv_istore_n (lv' := [(2, .int (nI 0)), (0, .ref qm), (1, .int (nI 4))]) hx hb dMo_writeIn_24 rfl hl (by decide) rfl (fun ls hl => ?_)
  have lpc : ∀ (k_lpc : Nat) (i : Nat) (y1 : Nat → Int64), (i ≤ n) → (∀ j, j < i → y1 j = xs j) → (n - i < k_lpc) → ∀ (H : Heap) (locs : List Loc) (ls : Array Slot), va_P D vwCl [(qm, .inr (9, [.int cd, .int (nI n), .ref qmr, .int (nI 4), .int (nI n), .ref qmc, .int (nI 0), .ref qmb, .int (nI 0), .int (nI dm), .ref qml])), (qmr, .inl (cJ, 1024, .inr (.inl xs))), (qml, .inl (cJ, 1024, .inr (.inl lm))), (qmc, .inl (cJ, 1024, .inr (.inl y1))), (qmb, .inl (cI, 10400, .inl mm))] H → va_D A [(qm, .inr (9, [.int cd, .int (nI n), .ref qmr, .int (nI 4), .int (nI n), .ref qmc, .int (nI 0), .ref qmb, .int (nI 0), .int (nI dm), .ref qml])), (qmr, .inl (cJ, 1024, .inr (.inl xs))), (qml, .inl (cJ, 1024, .inr (.inl lm))), (qmc, .inl (cJ, 1024, .inr (.inl y1))), (qmb, .inl (cI, 10400, .inl mm))] → va_S A s.heap H locs → lv_has ls 6 [(0, .ref qm), (1, .int (nI 4)), (2, .int (nI i))] → W p l e ({ frames := 5, cells := 0, slots := 0, locals := 150 }) s m ([.ref qm, .int (nI 4)].toArray) below meth c H locs (0) (0) Q (F0 m 25 ls []) := by
    intro k_lpc
    induction k_lpc with
    | zero => intro i y1 c1 c2 hfu; exact absurd hfu (by omega)
    | succ k_lpc ih_lpc =>
      intro i y1 c1 c2 hfu H locs ls hP hD hS hl
      refine lv_iload_n hx hb dMo_writeIn_25 rfl (lv_at hl 2 rfl) ?_
      refine lv_aload_n hx hb dMo_writeIn_26 rfl (lv_at hl 0 rfl) ?_
      refine va_get (D := D) (ci := 9) (v := .int (nI n)) (C := "ColumnFormsModel") (T := TMo) (N := 11) hx hb hts inMo hown hK hP 0 rfl rfl 1 (by decide) (hts _ tw_590) (fun _ h9 => h9) rfl dMo_writeIn_27 ?_
      refine lv_icmp_ge (tgt := 51) hx hb dMo_writeIn_30 (by decide) (fun c30 => ?_) (fun c30 => ?_)
      · have c30 : n ≤ i := (nI_leI (by omega) (by omega)).mp c30
        refine lv_iload_n hx hb dMo_writeIn_51 rfl (lv_at hl 1 rfl) ?_
        refine lv_if_ne (tgt := 86) hx hb dMo_writeIn_52 (by decide) (fun c52 => ?_) (fun c52 => ?_)
        · have c52 : ¬ 4 = 0 := fun h => c52 ((nI_eq (b := 0) (by omega) (by omega)).mpr h)
          refine lv_iload_n hx hb dMo_writeIn_86 rfl (lv_at hl 1 rfl) ?_
          refine lv_iconst (v := nI 1) hx hb dMo_writeIn_87 (by decide) ?_
          refine lv_icmp_ne (tgt := 159) hx hb dMo_writeIn_88 (by decide) (fun c88 => ?_) (fun c88 => ?_)
          · have c88 : ¬ 4 = 1 := fun h => c88 ((nI_eq (by omega) (by omega)).mpr h)
            refine lv_iload_n hx hb dMo_writeIn_159 rfl (lv_at hl 1 rfl) ?_
            refine lv_iconst (v := nI 2) hx hb dMo_writeIn_160 (by decide) ?_
            refine lv_icmp_ne (tgt := 171) hx hb dMo_writeIn_161 (by decide) (fun c161 => ?_) (fun c161 => ?_)
            · have c161 : ¬ 4 = 2 := fun h => c161 ((nI_eq (by omega) (by omega)).mpr h)
              refine lv_iload_n hx hb dMo_writeIn_171 rfl (lv_at hl 1 rfl) ?_
              refine lv_iconst (v := nI 3) hx hb dMo_writeIn_172 (by decide) ?_
              refine lv_icmp_ne (tgt := 183) hx hb dMo_writeIn_173 (by decide) (fun c173 => ?_) (fun c173 => ?_)
              · have c173 : ¬ 4 = 3 := fun h => c173 ((nI_eq (by omega) (by omega)).mpr h)
                refine lv_aload_n hx hb dMo_writeIn_183 rfl (lv_at hl 0 rfl) ?_
                refine kc_v (wc := [(qm, .inr (9, [.int cd, .int (nI n), .ref qmr, .int (nI 4), .int (nI n), .ref qmc, .int (nI 0), .ref qmb, .int (nI 0), .int (nI dm), .ref qml])), (qmr, .inl (cJ, 1024, .inr (.inl xs))), (qmb, .inl (cI, 10400, .inl mm))]) (wr := [(qml, .inl (cJ, 1024, .inr (.inl lm))), (qmc, .inl (cJ, 1024, .inr (.inl y1)))]) hP hD hS hA [0, 1, 4] [2, 3] rfl rfl (by decide) (by decide) (by decide) (fun hPc hDc => va_runV (As := []) (rest := []) ⟨hx, hb, hml, hown, hts⟩ (m_wSteps l D cJ cB cI cF qm cd n qmr (nI 4) n qmc qmb dm qml xs mm _ (hn0) (hn)) (cwV 0 hts (wsG_k tw_709 (wsG_k tw_711 (wsG_k tp_w25 (wsG_k tw_10 (wsG_c tw_712))))) rfl rfl rfl (by decide +kernel) ⟨Nat.le_of_ble_eq_true rfl, Nat.le_of_ble_eq_true rfl⟩) ⟨cf_blind, va_recv hK hPc (ci := 9) (q0 := 0) rfl rfl, cf_pre hPc hK hDc hWd⟩ rfl rfl hl.1 rfl (lv_room (Nat.le_of_ble_eq_true rfl)) dMo_writeIn_184 ⟨Nat.le_of_ble_eq_true rfl, Nat.le_of_ble_eq_true rfl⟩) (fun u H locs hw hP hD hS => ?_)
                obtain ⟨bq, s1, b1, m1, B1⟩ := u
                obtain ⟨e1, e2, e3, e4, e5, -⟩ := hw
                have e1 : s1 = (bq + 7) / 8 := e1
                have e2 : b1 = bq % 8 := e2
                have e3 : mB m1 bq B1 := e3
                have e4 : lS xs n bq B1 := e4
                have e5 : bq ≤ 81936 := e5
                have hP : va_P D vwCl [(qml, .inl (cJ, 1024, .inr (.inl lm))), (qmc, .inl (cJ, 1024, .inr (.inl y1))), (qm, .inr (9, [.int cd, .int (nI n), .ref qmr, .int (nI 4), .int (nI n), .ref qmc, .int (nI s1), .ref qmb, .int (nI b1), .int (nI dm), .ref qml])), (qmr, .inl (cJ, 1024, .inr (.inl xs))), (qmb, .inl (cI, 10400, .inl m1))] H := hP
                have hD : va_D A [(qml, .inl (cJ, 1024, .inr (.inl lm))), (qmc, .inl (cJ, 1024, .inr (.inl y1))), (qm, .inr (9, [.int cd, .int (nI n), .ref qmr, .int (nI 4), .int (nI n), .ref qmc, .int (nI s1), .ref qmb, .int (nI b1), .int (nI dm), .ref qml])), (qmr, .inl (cJ, 1024, .inr (.inl xs))), (qmb, .inl (cI, 10400, .inl m1))] := hD
                refine lv_aload_n hx hb dMo_writeIn_187 rfl (lv_at hl 0 rfl) ?_
                refine va_get (D := D) (ci := 9) (v := .int (nI s1)) (C := "ColumnFormsModel") (T := TMo) (N := 11) hx hb hts inMo hown hK hP 2 rfl rfl 6 (by decide) (hts _ tw_595) (fun _ h9 => h9) rfl dMo_writeIn_188 ?_
                exact hret (nI s1) (bq, s1, b1, m1, B1, dm, lm, y1) _ _ _ _ _ _ ⟨rfl, e1, e2, e3, e4, e5, fun j hj => c2 j (by omega), trivial⟩ (hP.sub [2, 3, 0, 1, 4] rfl) (hD.sub [2, 3, 0, 1, 4] (by decide) rfl) hS (Nat.le_of_ble_eq_true rfl) (Nat.le_of_ble_eq_true rfl) dMo_writeIn_191
              · have c173 : 4 = 3 := (nI_eq (by omega) (by omega)).mp c173
                exact absurd c173 (by decide)
            · have c161 : 4 = 2 := (nI_eq (by omega) (by omega)).mp c161
              exact absurd c161 (by decide)
          · have c88 : 4 = 1 := (nI_eq (by omega) (by omega)).mp c88
            exact absurd c88 (by decide)
        · have c52 : 4 = 0 := (nI_eq (b := 0) (by omega) (by omega)).mp c52
          exact absurd c52 (by decide)
      · have c30 : ¬ n ≤ i := fun h => c30 ((nI_leI (by omega) (by omega)).mpr h)
        refine lv_aload_n hx hb dMo_writeIn_33 rfl (lv_at hl 0 rfl) ?_
        refine va_get (D := D) (ci := 9) (v := .ref qmc) (C := "ColumnFormsModel") (T := TMo) (N := 11) hx hb hts inMo hown hK hP 0 rfl rfl 5 (by decide) (hts _ tw_594) (fun _ h9 => h9) rfl dMo_writeIn_34 ?_
        refine lv_iload_n hx hb dMo_writeIn_37 rfl (lv_at hl 2 rfl) ?_
        refine lv_aload_n hx hb dMo_writeIn_38 rfl (lv_at hl 0 rfl) ?_
        refine va_get (D := D) (ci := 9) (v := .ref qmr) (C := "ColumnFormsModel") (T := TMo) (N := 11) hx hb hts inMo hown hK hP 0 rfl rfl 2 (by decide) (hts _ tw_591) (fun _ h9 => h9) rfl dMo_writeIn_39 ?_
        refine lv_iload_n hx hb dMo_writeIn_42 rfl (lv_at hl 2 rfl) ?_
        refine va_lald hx hb hK hP 1 0 rfl rfl (vp_in_nI (by omega) (by omega)) dMo_writeIn_43 ?_
        refine tp_l (show (xs (nI i).toNatClampNeg) = (xs i) from congrArg _ (nI_clamp (by omega))) ?_
        refine va_last hx hb hK hP hD hS 3 0 rfl rfl (vp_in_nI (by omega) (by omega)) dMo_writeIn_44 (fun H locs hP hD hS => ?_)
        rw [nI_clamp (by omega)] at hP hD
        have hP : va_P D vwCl [(qm, .inr (9, [.int cd, .int (nI n), .ref qmr, .int (nI 4), .int (nI n), .ref qmc, .int (nI 0), .ref qmb, .int (nI 0), .int (nI dm), .ref qml])), (qmr, .inl (cJ, 1024, .inr (.inl xs))), (qml, .inl (cJ, 1024, .inr (.inl lm))), (qmc, .inl (cJ, 1024, .inr (.inl (vp_updL y1 i (xs i))))), (qmb, .inl (cI, 10400, .inl mm))] H := hP
        have hD : va_D A [(qm, .inr (9, [.int cd, .int (nI n), .ref qmr, .int (nI 4), .int (nI n), .ref qmc, .int (nI 0), .ref qmb, .int (nI 0), .int (nI dm), .ref qml])), (qmr, .inl (cJ, 1024, .inr (.inl xs))), (qml, .inl (cJ, 1024, .inr (.inl lm))), (qmc, .inl (cJ, 1024, .inr (.inl (vp_updL y1 i (xs i))))), (qmb, .inl (cI, 10400, .inl mm))] := hD
        refine lv_iinc (v := nI (i + 1)) (lv' := [(2, .int (nI (i + 1))), (0, .ref qm), (1, .int (nI 4))]) hx hb dMo_writeIn_45 hl (k := 2) rfl (by rw [show (Int32.ofInt 1) = nI 1 from by decide]; exact nI_add _ _) (by decide) rfl (fun ls hl => ?_)
        refine lv_goto (tgt := 25) hx hb dMo_writeIn_48 (by decide) ?_
        exact ih_lpc (i + 1) (vp_updL y1 i (xs i)) (by omega) (cp_all c2) (by omega) _ _ _ (hP.sub [0, 1, 2, 3, 4] rfl) (hD.sub [0, 1, 2, 3, 4] (by decide) rfl) hS (lv_sub hl [1, 2, 0] rfl)
  exact lpc (n - 0 + 1) 0 ys (Nat.zero_le n) (fun j hj => absurd hj (by omega)) (by omega) _ _ _ (hP.sub [0, 1, 2, 3, 4] rfl) (hD.sub [0, 1, 2, 3, 4] (by decide) rfl) hS (lv_sub hl [1, 2, 0] rfl)

set_option maxHeartbeats 4000000 in
theorem m_wIn (l : Launch) (D : va_G) (cJ cB cI cF : ClassId) (qm : Nat) (cd : Int32) (n : Nat) (qmr : Nat) (fm : Int32) (cm : Nat) (qmc : Nat) (szv : Nat) (qmb : Nat) (btv : Nat) (dm : Nat) (qml : Nat) (xs : Nat → Int64) (lm : Nat → Int64) (ys : Nat → Int64) (mm : Nat → Int32) (k : Nat) (sz : Nat) (hn0 : 0 < n) (hn : n ≤ 1024) (hk : k < 5) : Met l yMo_writeIn (Cond.code yMo_writeIn cMo_writeIn 6 (some .int) :: wsG) ({ frames := 5, cells := 0, slots := 0, locals := 150 }) (va_Pc [.ref qm, .int (nI k)] (cfPre D (cfT cJ cB cI cF) [(qm, .inr (9, [.int cd, .int (nI n), .ref qmr, .int fm, .int (nI cm), .ref qmc, .int (nI szv), .ref qmb, .int (nI btv), .int (nI dm), .ref qml])), (qmr, .inl (cJ, 1024, .inr (.inl xs))), (qml, .inl (cJ, 1024, .inr (.inl lm))), (qmc, .inl (cJ, 1024, .inr (.inl ys))), (qmb, .inl (cI, 10400, .inl mm))] sz)) (va_Qi (fun (r : Int32) (u : Nat × Nat × Nat × (Nat → Int32) × (Nat → Bool) × Nat × (Nat → Int64) × (Nat → Int64)) => r = nI u.2.1 ∧ (u.2.1 = (u.1 + 7) / 8) ∧ (u.2.2.1 = u.1 % 8) ∧ (mB u.2.2.2.1 u.1 u.2.2.2.2.1) ∧ (lF k xs n u.1 u.2.2.2.2.1) ∧ (u.1 ≤ 81936) ∧ (∀ j, j < n → u.2.2.2.2.2.2.2 j = xs j) ∧ True) (fun u t => cfPost D ((fun (u : Nat × Nat × Nat × (Nat → Int32) × (Nat → Bool) × Nat × (Nat → Int64) × (Nat → Int64)) => [(qm, .inr (9, [.int cd, .int (nI n), .ref qmr, .int (nI k), .int (nI n), .ref qmc, .int (nI u.2.1), .ref qmb, .int (nI u.2.2.1), .int (nI u.2.2.2.2.2.1), .ref qml])), (qmr, .inl (cJ, 1024, .inr (.inl xs))), (qml, .inl (cJ, 1024, .inr (.inl u.2.2.2.2.2.2.1))), (qmc, .inl (cJ, 1024, .inr (.inl u.2.2.2.2.2.2.2))), (qmb, .inl (cI, 10400, .inl u.2.2.2.1))]) u) (va_A [(qm, .inr (9, [.int cd, .int (nI n), .ref qmr, .int fm, .int (nI cm), .ref qmc, .int (nI szv), .ref qmb, .int (nI btv), .int (nI dm), .ref qml])), (qmr, .inl (cJ, 1024, .inr (.inl xs))), (qml, .inl (cJ, 1024, .inr (.inl lm))), (qmc, .inl (cJ, 1024, .inr (.inl ys))), (qmb, .inl (cI, 10400, .inl mm))] sz) t) (va_A [(qm, .inr (9, [.int cd, .int (nI n), .ref qmr, .int fm, .int (nI cm), .ref qmc, .int (nI szv), .ref qmb, .int (nI btv), .int (nI dm), .ref qml])), (qmr, .inl (cJ, 1024, .inr (.inl xs))), (qml, .inl (cJ, 1024, .inr (.inl lm))), (qmc, .inl (cJ, 1024, .inr (.inl ys))), (qmb, .inl (cI, 10400, .inl mm))] sz)) 0 0 (va_A [(qm, .inr (9, [.int cd, .int (nI n), .ref qmr, .int fm, .int (nI cm), .ref qmc, .int (nI szv), .ref qmb, .int (nI btv), .int (nI dm), .ref qml])), (qmr, .inl (cJ, 1024, .inr (.inl xs))), (qml, .inl (cJ, 1024, .inr (.inl lm))), (qmc, .inl (cJ, 1024, .inr (.inl ys))), (qmb, .inl (cI, 10400, .inl mm))] sz) := by
  rcases (show k = 0 ∨ k = 1 ∨ k = 2 ∨ k = 3 ∨ k = 4 by omega) with rfl | rfl | rfl | rfl | rfl
  · exact m_wIn_0 l D cJ cB cI cF qm cd n qmr fm cm qmc szv qmb btv dm qml xs lm ys mm sz hn0 hn
  · exact m_wIn_1 l D cJ cB cI cF qm cd n qmr fm cm qmc szv qmb btv dm qml xs lm ys mm sz hn0 hn
  · exact m_wIn_2 l D cJ cB cI cF qm cd n qmr fm cm qmc szv qmb btv dm qml xs lm ys mm sz hn0 hn
  · exact m_wIn_3 l D cJ cB cI cF qm cd n qmr fm cm qmc szv qmb btv dm qml xs lm ys mm sz hn0 hn
  · exact m_wIn_4 l D cJ cB cI cF qm cd n qmr fm cm qmc szv qmb btv dm qml xs lm ys mm sz hn0 hn

set_option maxHeartbeats 4000000 in
set_option maxRecDepth 100000 in
theorem m_weight (l : Launch) (D : va_G) (cJ cB cI cF : ClassId) (qm : Nat) (cd : Int32) (n : Nat) (qmr : Nat) (fm : Int32) (cm : Nat) (qmc : Nat) (szv : Nat) (qmb : Nat) (btv : Nat) (dm : Nat) (qml : Nat) (xs : Nat → Int64) (lm : Nat → Int64) (rs : Nat → Int64) (d : Nat) (k : Nat) (sz : Nat) (hn0 : 0 < n) (hn : n ≤ 1024) (hI : rInv xs n rs d) (hk : k < 5) : Met l yMo_weight (Cond.code yMo_weight cMo_weight 2 (some .int) :: wsG) ({ frames := 5, cells := 0, slots := 0, locals := 131 }) (va_Pc [.ref qm, .int (nI k)] (cfPre D (cfT cJ cB cI cF) [(qm, .inr (9, [.int cd, .int (nI n), .ref qmr, .int fm, .int (nI cm), .ref qmc, .int (nI szv), .ref qmb, .int (nI btv), .int (nI dm), .ref qml])), (qmr, .inl (cJ, 1024, .inr (.inl xs))), (qml, .inl (cJ, 1024, .inr (.inl lm)))] sz)) (va_Qi (fun (r : Int32) (u : Nat × (Nat → Int64)) => r = nI (wGt n d (rRn xs n) (rLo xs n) (rHi xs n) (sLo xs n) (sHi xs n) k) ∧ True) (fun u t => cfPost D ((fun (u : Nat × (Nat → Int64)) => [(qm, .inr (9, [.int (nI 0), .int (nI n), .ref qmr, .int fm, .int (nI cm), .ref qmc, .int (nI szv), .ref qmb, .int (nI btv), .int (nI u.1), .ref qml])), (qmr, .inl (cJ, 1024, .inr (.inl xs))), (qml, .inl (cJ, 1024, .inr (.inl u.2)))]) u) (va_A [(qm, .inr (9, [.int cd, .int (nI n), .ref qmr, .int fm, .int (nI cm), .ref qmc, .int (nI szv), .ref qmb, .int (nI btv), .int (nI dm), .ref qml])), (qmr, .inl (cJ, 1024, .inr (.inl xs))), (qml, .inl (cJ, 1024, .inr (.inl lm)))] sz) t) (va_A [(qm, .inr (9, [.int cd, .int (nI n), .ref qmr, .int fm, .int (nI cm), .ref qmc, .int (nI szv), .ref qmb, .int (nI btv), .int (nI dm), .ref qml])), (qmr, .inl (cJ, 1024, .inr (.inl xs))), (qml, .inl (cJ, 1024, .inr (.inl lm)))] sz)) 0 0 (va_A [(qm, .inr (9, [.int cd, .int (nI n), .ref qmr, .int fm, .int (nI cm), .ref qmc, .int (nI szv), .ref qmb, .int (nI btv), .int (nI dm), .ref qml])), (qmr, .inl (cJ, 1024, .inr (.inl xs))), (qml, .inl (cJ, 1024, .inr (.inl lm)))] sz) := by
  refine met_i (cc := cMo_weight) (maxL := 2) (S := Nat × (Nat → Int64)) (D := D) (wO := fun (u : Nat × (Nat → Int64)) => [(qm, .inr (9, [.int (nI 0), .int (nI n), .ref qmr, .int fm, .int (nI cm), .ref qmc, .int (nI szv), .ref qmb, .int (nI btv), .int (nI u.1), .ref qml])), (qmr, .inl (cJ, 1024, .inr (.inl xs))), (qml, .inl (cJ, 1024, .inr (.inl u.2)))]) (by decide) (Nat.le_of_ble_eq_true rfl) ?_
  intro p e s m below meth c hx hb hml hown hts hlocks hin hWd A hA hsz hP hK hD hS Q hret ls hl
  have hown : s.vm.findClass "ColumnFormsModel" = some m.cls := hown
  have hl : lv_has ls 2 [(0, .ref qm), (1, .int (nI k))] := hl
  have hP : va_P D vwCl [(qm, .inr (9, [.int cd, .int (nI n), .ref qmr, .int fm, .int (nI cm), .ref qmc, .int (nI szv), .ref qmb, .int (nI btv), .int (nI dm), .ref qml])), (qmr, .inl (cJ, 1024, .inr (.inl xs))), (qml, .inl (cJ, 1024, .inr (.inl lm)))] s.heap := hP
  refine lv_aload_n hx hb dMo_weight_0 rfl (lv_at hl 0 rfl) ?_
  refine lv_iload_n hx hb dMo_weight_1 rfl (lv_at hl 1 rfl) ?_
  refine lv_if_lt (tgt := 10) hx hb dMo_weight_2 (by decide) (fun c2 => ?_) (fun c2 => ?_)
  · have c2 : k < 0 := (nI_ltI (b := 0) (by omega) (by omega)).mp c2
    exact absurd c2 (by omega)
  · have c2 : ¬ k < 0 := fun h => c2 ((nI_ltI (b := 0) (by omega) (by omega)).mpr h)
    refine lv_iload_n hx hb dMo_weight_5 rfl (lv_at hl 1 rfl) ?_
    refine lv_iconst (v := nI 4) hx hb dMo_weight_6 (by decide) ?_
    refine lv_icmp_le (tgt := 14) hx hb dMo_weight_7 (by decide) (fun c7 => ?_) (fun c7 => ?_)
    · have c7 : k ≤ 4 := (nI_leI (by omega) (by omega)).mp c7
      refine lv_aload_n hx hb dMo_weight_14 rfl (lv_at hl 0 rfl) ?_
      refine va_get (D := D) (ci := 9) (v := .int (nI n)) (C := "ColumnFormsModel") (T := TMo) (N := 11) hx hb hts inMo hown hK hP 0 rfl rfl 1 (by decide) (hts _ tw_590) (fun _ h9 => h9) rfl dMo_weight_15 ?_
      refine lv_if_ne (tgt := 25) hx hb dMo_weight_18 (by decide) (fun c18 => ?_) (fun c18 => ?_)
      · have c18 : ¬ n = 0 := fun h => c18 ((nI_eq (b := 0) (by omega) (by omega)).mpr h)
        refine lv_iconst (v := nI 0) hx hb dMo_weight_25 (by decide) ?_
        refine va_put (D := D) (ci := 9) (v := .int (nI 0)) (ty := .int) (C := "ColumnFormsModel") (T := TMo) (N := 11) hx hb hts inMo tyMo tyMo_ok nmMo hown hK hP hD hS 0 rfl rfl 0 (by decide) (hts _ tw_589) (fun _ h9 => h9) rfl (by decide +kernel) rfl rfl (Nat.le_of_ble_eq_true rfl) dMo_weight_26 (fun H locs hP hD hS => ?_)
        have hP : va_P D vwCl [(qm, .inr (9, [.int (nI 0), .int (nI n), .ref qmr, .int fm, .int (nI cm), .ref qmc, .int (nI szv), .ref qmb, .int (nI btv), .int (nI dm), .ref qml])), (qmr, .inl (cJ, 1024, .inr (.inl xs))), (qml, .inl (cJ, 1024, .inr (.inl lm)))] H := hP
        have hD : va_D A [(qm, .inr (9, [.int (nI 0), .int (nI n), .ref qmr, .int fm, .int (nI cm), .ref qmc, .int (nI szv), .ref qmb, .int (nI btv), .int (nI dm), .ref qml])), (qmr, .inl (cJ, 1024, .inr (.inl xs))), (qml, .inl (cJ, 1024, .inr (.inl lm)))] := hD
        refine lv_aload_n hx hb dMo_weight_29 rfl (lv_at hl 0 rfl) ?_
        refine va_get (D := D) (ci := 9) (v := .int (nI 0)) (C := "ColumnFormsModel") (T := TMo) (N := 11) hx hb hts inMo hown hK hP 0 rfl rfl 0 (by decide) (hts _ tw_589) (fun _ h9 => h9) rfl dMo_weight_30 ?_
        refine lv_if_le (tgt := 40) hx hb dMo_weight_33 (by decide) (fun c33 => ?_) (fun c33 => ?_)
        · have c33 : 0 ≤ 0 := (nI_leI (b := 0) (by omega) (by omega)).mp c33
          refine lv_aload_n hx hb dMo_weight_40 rfl (lv_at hl 0 rfl) ?_
          refine lv_iload_n hx hb dMo_weight_41 rfl (lv_at hl 1 rfl) ?_
          refine kc_i (wc := [(qm, .inr (9, [.int (nI 0), .int (nI n), .ref qmr, .int fm, .int (nI cm), .ref qmc, .int (nI szv), .ref qmb, .int (nI btv), .int (nI dm), .ref qml])), (qmr, .inl (cJ, 1024, .inr (.inl xs))), (qml, .inl (cJ, 1024, .inr (.inl lm)))]) (wr := []) hP hD hS hA [0, 1, 2] [] rfl rfl (by decide) (by decide) (by decide) (fun hPc hDc => va_runV (As := [.int (nI k)]) (rest := []) ⟨hx, hb, hml, hown, hts⟩ (m_weigh l D cJ cB cI cF qm (nI 0) n qmr fm cm qmc szv qmb btv dm qml xs lm rs d k _ (hn0) (hn) (hI) (hk)) (cwV 1 hts (wsG_k tw_643 (wsG_k tw_645 (wsG_k tp_w11 (wsG_k tw_10 (wsG_c tw_646))))) rfl rfl rfl (by decide +kernel) ⟨Nat.le_of_ble_eq_true rfl, Nat.le_of_ble_eq_true rfl⟩) ⟨cf_blind, va_recv hK hPc (ci := 9) (q0 := 0) rfl rfl, cf_pre hPc hK hDc hWd⟩ rfl rfl hl.1 rfl (lv_room (Nat.le_of_ble_eq_true rfl)) dMo_weight_42 ⟨Nat.le_of_ble_eq_true rfl, Nat.le_of_ble_eq_true rfl⟩) (fun r u H locs hw hP hD hS => ?_)
          obtain ⟨d2_1, l2_2⟩ := u
          obtain ⟨rfl, -⟩ := hw
          have hP : va_P D vwCl [(qm, .inr (9, [.int (nI 0), .int (nI n), .ref qmr, .int fm, .int (nI cm), .ref qmc, .int (nI szv), .ref qmb, .int (nI btv), .int (nI d2_1), .ref qml])), (qmr, .inl (cJ, 1024, .inr (.inl xs))), (qml, .inl (cJ, 1024, .inr (.inl l2_2)))] H := hP
          have hD : va_D A [(qm, .inr (9, [.int (nI 0), .int (nI n), .ref qmr, .int fm, .int (nI cm), .ref qmc, .int (nI szv), .ref qmb, .int (nI btv), .int (nI d2_1), .ref qml])), (qmr, .inl (cJ, 1024, .inr (.inl xs))), (qml, .inl (cJ, 1024, .inr (.inl l2_2)))] := hD
          exact hret (nI (wGt n d (rRn xs n) (rLo xs n) (rHi xs n) (sLo xs n) (sHi xs n) k)) (d2_1, l2_2) _ _ _ _ _ _ ⟨rfl, trivial⟩ (hP.sub [0, 1, 2] rfl) (hD.sub [0, 1, 2] (by decide) rfl) hS (Nat.le_of_ble_eq_true rfl) (Nat.le_of_ble_eq_true rfl) dMo_weight_45
        · have c33 : ¬ 0 ≤ 0 := fun h => c33 ((nI_leI (b := 0) (by omega) (by omega)).mpr h)
          exact absurd c33 (by decide)
      · have c18 : n = 0 := (nI_eq (b := 0) (by omega) (by omega)).mp c18
        exact absurd c18 (by omega)
    · have c7 : ¬ k ≤ 4 := fun h => c7 ((nI_leI (by omega) (by omega)).mpr h)
      exact absurd c7 (by omega)

set_option maxHeartbeats 4000000 in
set_option maxRecDepth 100000 in
theorem m_weightX1 (l : Launch) (D : va_G) (cJ cB cI cF : ClassId) (qm : Nat) (cd : Int32) (n : Nat) (qmr : Nat) (fm : Int32) (cm : Nat) (qmc : Nat) (szv : Nat) (qmb : Nat) (btv : Nat) (dm : Nat) (qml : Nat) (fo : Int32) (sz : Nat) (hbad : ¬ ∃ j, j < 5 ∧ fo = nI j) : Met l yMo_weight (Cond.code yMo_weight cMo_weight 2 (some .int) :: wsG) ({ frames := 0, cells := 0, slots := 0, locals := 0 }) (va_Pc [.ref qm, .int fo] (cfPre D (cfT cJ cB cI cF) [(qm, .inr (9, [.int cd, .int (nI n), .ref qmr, .int fm, .int (nI cm), .ref qmc, .int (nI szv), .ref qmb, .int (nI btv), .int (nI dm), .ref qml]))] sz)) (va_Qi (fun (r : Int32) (u : Unit) => r = nI 0 ∧ True) (fun u t => cfPost D ((fun (u : Unit) => [(qm, .inr (9, [.int (nI 1), .int (nI n), .ref qmr, .int fm, .int (nI cm), .ref qmc, .int (nI szv), .ref qmb, .int (nI btv), .int (nI dm), .ref qml]))]) u) (va_A [(qm, .inr (9, [.int cd, .int (nI n), .ref qmr, .int fm, .int (nI cm), .ref qmc, .int (nI szv), .ref qmb, .int (nI btv), .int (nI dm), .ref qml]))] sz) t) (va_A [(qm, .inr (9, [.int cd, .int (nI n), .ref qmr, .int fm, .int (nI cm), .ref qmc, .int (nI szv), .ref qmb, .int (nI btv), .int (nI dm), .ref qml]))] sz)) 0 0 (va_A [(qm, .inr (9, [.int cd, .int (nI n), .ref qmr, .int fm, .int (nI cm), .ref qmc, .int (nI szv), .ref qmb, .int (nI btv), .int (nI dm), .ref qml]))] sz) := by
  refine met_i (cc := cMo_weight) (maxL := 2) (S := Unit) (D := D) (wO := fun (u : Unit) => [(qm, .inr (9, [.int (nI 1), .int (nI n), .ref qmr, .int fm, .int (nI cm), .ref qmc, .int (nI szv), .ref qmb, .int (nI btv), .int (nI dm), .ref qml]))]) (by decide) (Nat.le_of_ble_eq_true rfl) ?_
  intro p e s m below meth c hx hb hml hown hts hlocks hin hWd A hA hsz hP hK hD hS Q hret ls hl
  have hown : s.vm.findClass "ColumnFormsModel" = some m.cls := hown
  have hl : lv_has ls 2 [(0, .ref qm), (1, .int fo)] := hl
  have hP : va_P D vwCl [(qm, .inr (9, [.int cd, .int (nI n), .ref qmr, .int fm, .int (nI cm), .ref qmc, .int (nI szv), .ref qmb, .int (nI btv), .int (nI dm), .ref qml]))] s.heap := hP
  refine lv_aload_n hx hb dMo_weight_0 rfl (lv_at hl 0 rfl) ?_
  refine lv_iload_n hx hb dMo_weight_1 rfl (lv_at hl 1 rfl) ?_
  refine lv_if_lt (tgt := 10) hx hb dMo_weight_2 (by decide) (fun c2 => ?_) (fun c2 => ?_)
  · refine lv_iconst (v := nI 1) hx hb dMo_weight_10 (by decide) ?_
    refine lv_goto (tgt := 26) hx hb dMo_weight_11 (by decide) ?_
    refine va_put (D := D) (ci := 9) (v := .int (nI 1)) (ty := .int) (C := "ColumnFormsModel") (T := TMo) (N := 11) hx hb hts inMo tyMo tyMo_ok nmMo hown hK hP hD hS 0 rfl rfl 0 (by decide) (hts _ tw_589) (fun _ h9 => h9) rfl (by decide +kernel) rfl rfl (Nat.le_of_ble_eq_true rfl) dMo_weight_26 (fun H locs hP hD hS => ?_)
    have hP : va_P D vwCl [(qm, .inr (9, [.int (nI 1), .int (nI n), .ref qmr, .int fm, .int (nI cm), .ref qmc, .int (nI szv), .ref qmb, .int (nI btv), .int (nI dm), .ref qml]))] H := hP
    have hD : va_D A [(qm, .inr (9, [.int (nI 1), .int (nI n), .ref qmr, .int fm, .int (nI cm), .ref qmc, .int (nI szv), .ref qmb, .int (nI btv), .int (nI dm), .ref qml]))] := hD
    refine lv_aload_n hx hb dMo_weight_29 rfl (lv_at hl 0 rfl) ?_
    refine va_get (D := D) (ci := 9) (v := .int (nI 1)) (C := "ColumnFormsModel") (T := TMo) (N := 11) hx hb hts inMo hown hK hP 0 rfl rfl 0 (by decide) (hts _ tw_589) (fun _ h9 => h9) rfl dMo_weight_30 ?_
    refine lv_if_le (tgt := 40) hx hb dMo_weight_33 (by decide) (fun c33 => ?_) (fun c33 => ?_)
    · have c33 : 1 ≤ 0 := (nI_leI (b := 0) (by omega) (by omega)).mp c33
      exact absurd c33 (by decide)
    · have c33 : ¬ 1 ≤ 0 := fun h => c33 ((nI_leI (b := 0) (by omega) (by omega)).mpr h)
      refine lv_iconst (v := nI 0) hx hb dMo_weight_36 (by decide) ?_
      refine lv_goto (tgt := 45) hx hb dMo_weight_37 (by decide) ?_
      exact hret (nI 0) () _ _ _ _ _ _ ⟨rfl, trivial⟩ (hP.sub [0] rfl) (hD.sub [0] (by decide) rfl) hS (Nat.le_of_ble_eq_true rfl) (Nat.le_of_ble_eq_true rfl) dMo_weight_45
  · refine lv_iload_n hx hb dMo_weight_5 rfl (lv_at hl 1 rfl) ?_
    refine lv_iconst (v := nI 4) hx hb dMo_weight_6 (by decide) ?_
    refine lv_icmp_le (tgt := 14) hx hb dMo_weight_7 (by decide) (fun c7 => ?_) (fun c7 => ?_)
    · exact absurd (i_lt c2 (Int32.lt_of_le_of_lt c7 (by decide : nI 4 < nI 5)) (by omega)) hbad
    · refine lv_iconst (v := nI 1) hx hb dMo_weight_10 (by decide) ?_
      refine lv_goto (tgt := 26) hx hb dMo_weight_11 (by decide) ?_
      refine va_put (D := D) (ci := 9) (v := .int (nI 1)) (ty := .int) (C := "ColumnFormsModel") (T := TMo) (N := 11) hx hb hts inMo tyMo tyMo_ok nmMo hown hK hP hD hS 0 rfl rfl 0 (by decide) (hts _ tw_589) (fun _ h9 => h9) rfl (by decide +kernel) rfl rfl (Nat.le_of_ble_eq_true rfl) dMo_weight_26 (fun H locs hP hD hS => ?_)
      have hP : va_P D vwCl [(qm, .inr (9, [.int (nI 1), .int (nI n), .ref qmr, .int fm, .int (nI cm), .ref qmc, .int (nI szv), .ref qmb, .int (nI btv), .int (nI dm), .ref qml]))] H := hP
      have hD : va_D A [(qm, .inr (9, [.int (nI 1), .int (nI n), .ref qmr, .int fm, .int (nI cm), .ref qmc, .int (nI szv), .ref qmb, .int (nI btv), .int (nI dm), .ref qml]))] := hD
      refine lv_aload_n hx hb dMo_weight_29 rfl (lv_at hl 0 rfl) ?_
      refine va_get (D := D) (ci := 9) (v := .int (nI 1)) (C := "ColumnFormsModel") (T := TMo) (N := 11) hx hb hts inMo hown hK hP 0 rfl rfl 0 (by decide) (hts _ tw_589) (fun _ h9 => h9) rfl dMo_weight_30 ?_
      refine lv_if_le (tgt := 40) hx hb dMo_weight_33 (by decide) (fun c33 => ?_) (fun c33 => ?_)
      · have c33 : 1 ≤ 0 := (nI_leI (b := 0) (by omega) (by omega)).mp c33
        exact absurd c33 (by decide)
      · have c33 : ¬ 1 ≤ 0 := fun h => c33 ((nI_leI (b := 0) (by omega) (by omega)).mpr h)
        refine lv_iconst (v := nI 0) hx hb dMo_weight_36 (by decide) ?_
        refine lv_goto (tgt := 45) hx hb dMo_weight_37 (by decide) ?_
        exact hret (nI 0) () _ _ _ _ _ _ ⟨rfl, trivial⟩ (hP.sub [0] rfl) (hD.sub [0] (by decide) rfl) hS (Nat.le_of_ble_eq_true rfl) (Nat.le_of_ble_eq_true rfl) dMo_weight_45

set_option maxHeartbeats 4000000 in
set_option maxRecDepth 100000 in
theorem m_weightX2 (l : Launch) (D : va_G) (cJ cB cI cF : ClassId) (qm : Nat) (cd : Int32) (n : Nat) (qmr : Nat) (fm : Int32) (cm : Nat) (qmc : Nat) (szv : Nat) (qmb : Nat) (btv : Nat) (dm : Nat) (qml : Nat) (k : Nat) (sz : Nat) (hk : k < 5) (hn : n = 0) : Met l yMo_weight (Cond.code yMo_weight cMo_weight 2 (some .int) :: wsG) ({ frames := 0, cells := 0, slots := 0, locals := 0 }) (va_Pc [.ref qm, .int (nI k)] (cfPre D (cfT cJ cB cI cF) [(qm, .inr (9, [.int cd, .int (nI n), .ref qmr, .int fm, .int (nI cm), .ref qmc, .int (nI szv), .ref qmb, .int (nI btv), .int (nI dm), .ref qml]))] sz)) (va_Qi (fun (r : Int32) (u : Unit) => r = nI 0 ∧ True) (fun u t => cfPost D ((fun (u : Unit) => [(qm, .inr (9, [.int (nI 2), .int (nI n), .ref qmr, .int fm, .int (nI cm), .ref qmc, .int (nI szv), .ref qmb, .int (nI btv), .int (nI dm), .ref qml]))]) u) (va_A [(qm, .inr (9, [.int cd, .int (nI n), .ref qmr, .int fm, .int (nI cm), .ref qmc, .int (nI szv), .ref qmb, .int (nI btv), .int (nI dm), .ref qml]))] sz) t) (va_A [(qm, .inr (9, [.int cd, .int (nI n), .ref qmr, .int fm, .int (nI cm), .ref qmc, .int (nI szv), .ref qmb, .int (nI btv), .int (nI dm), .ref qml]))] sz)) 0 0 (va_A [(qm, .inr (9, [.int cd, .int (nI n), .ref qmr, .int fm, .int (nI cm), .ref qmc, .int (nI szv), .ref qmb, .int (nI btv), .int (nI dm), .ref qml]))] sz) := by
  refine met_i (cc := cMo_weight) (maxL := 2) (S := Unit) (D := D) (wO := fun (u : Unit) => [(qm, .inr (9, [.int (nI 2), .int (nI n), .ref qmr, .int fm, .int (nI cm), .ref qmc, .int (nI szv), .ref qmb, .int (nI btv), .int (nI dm), .ref qml]))]) (by decide) (Nat.le_of_ble_eq_true rfl) ?_
  intro p e s m below meth c hx hb hml hown hts hlocks hin hWd A hA hsz hP hK hD hS Q hret ls hl
  have hown : s.vm.findClass "ColumnFormsModel" = some m.cls := hown
  have hl : lv_has ls 2 [(0, .ref qm), (1, .int (nI k))] := hl
  have hP : va_P D vwCl [(qm, .inr (9, [.int cd, .int (nI n), .ref qmr, .int fm, .int (nI cm), .ref qmc, .int (nI szv), .ref qmb, .int (nI btv), .int (nI dm), .ref qml]))] s.heap := hP
  refine lv_aload_n hx hb dMo_weight_0 rfl (lv_at hl 0 rfl) ?_
  refine lv_iload_n hx hb dMo_weight_1 rfl (lv_at hl 1 rfl) ?_
  refine lv_if_lt (tgt := 10) hx hb dMo_weight_2 (by decide) (fun c2 => ?_) (fun c2 => ?_)
  · have c2 : k < 0 := (nI_ltI (b := 0) (by omega) (by omega)).mp c2
    exact absurd c2 (by omega)
  · have c2 : ¬ k < 0 := fun h => c2 ((nI_ltI (b := 0) (by omega) (by omega)).mpr h)
    refine lv_iload_n hx hb dMo_weight_5 rfl (lv_at hl 1 rfl) ?_
    refine lv_iconst (v := nI 4) hx hb dMo_weight_6 (by decide) ?_
    refine lv_icmp_le (tgt := 14) hx hb dMo_weight_7 (by decide) (fun c7 => ?_) (fun c7 => ?_)
    · have c7 : k ≤ 4 := (nI_leI (by omega) (by omega)).mp c7
      refine lv_aload_n hx hb dMo_weight_14 rfl (lv_at hl 0 rfl) ?_
      refine va_get (D := D) (ci := 9) (v := .int (nI n)) (C := "ColumnFormsModel") (T := TMo) (N := 11) hx hb hts inMo hown hK hP 0 rfl rfl 1 (by decide) (hts _ tw_590) (fun _ h9 => h9) rfl dMo_weight_15 ?_
      refine lv_if_ne (tgt := 25) hx hb dMo_weight_18 (by decide) (fun c18 => ?_) (fun c18 => ?_)
      · have c18 : ¬ n = 0 := fun h => c18 ((nI_eq (b := 0) (by omega) (by omega)).mpr h)
        exact absurd hn c18
      · have c18 : n = 0 := (nI_eq (b := 0) (by omega) (by omega)).mp c18
        refine lv_iconst (v := nI 2) hx hb dMo_weight_21 (by decide) ?_
        refine lv_goto (tgt := 26) hx hb dMo_weight_22 (by decide) ?_
        refine va_put (D := D) (ci := 9) (v := .int (nI 2)) (ty := .int) (C := "ColumnFormsModel") (T := TMo) (N := 11) hx hb hts inMo tyMo tyMo_ok nmMo hown hK hP hD hS 0 rfl rfl 0 (by decide) (hts _ tw_589) (fun _ h9 => h9) rfl (by decide +kernel) rfl rfl (Nat.le_of_ble_eq_true rfl) dMo_weight_26 (fun H locs hP hD hS => ?_)
        have hP : va_P D vwCl [(qm, .inr (9, [.int (nI 2), .int (nI n), .ref qmr, .int fm, .int (nI cm), .ref qmc, .int (nI szv), .ref qmb, .int (nI btv), .int (nI dm), .ref qml]))] H := hP
        have hD : va_D A [(qm, .inr (9, [.int (nI 2), .int (nI n), .ref qmr, .int fm, .int (nI cm), .ref qmc, .int (nI szv), .ref qmb, .int (nI btv), .int (nI dm), .ref qml]))] := hD
        refine lv_aload_n hx hb dMo_weight_29 rfl (lv_at hl 0 rfl) ?_
        refine va_get (D := D) (ci := 9) (v := .int (nI 2)) (C := "ColumnFormsModel") (T := TMo) (N := 11) hx hb hts inMo hown hK hP 0 rfl rfl 0 (by decide) (hts _ tw_589) (fun _ h9 => h9) rfl dMo_weight_30 ?_
        refine lv_if_le (tgt := 40) hx hb dMo_weight_33 (by decide) (fun c33 => ?_) (fun c33 => ?_)
        · have c33 : 2 ≤ 0 := (nI_leI (b := 0) (by omega) (by omega)).mp c33
          exact absurd c33 (by decide)
        · have c33 : ¬ 2 ≤ 0 := fun h => c33 ((nI_leI (b := 0) (by omega) (by omega)).mpr h)
          refine lv_iconst (v := nI 0) hx hb dMo_weight_36 (by decide) ?_
          refine lv_goto (tgt := 45) hx hb dMo_weight_37 (by decide) ?_
          exact hret (nI 0) () _ _ _ _ _ _ ⟨rfl, trivial⟩ (hP.sub [0] rfl) (hD.sub [0] (by decide) rfl) hS (Nat.le_of_ble_eq_true rfl) (Nat.le_of_ble_eq_true rfl) dMo_weight_45
    · have c7 : ¬ k ≤ 4 := fun h => c7 ((nI_leI (by omega) (by omega)).mpr h)
      exact absurd c7 (by omega)

set_option maxHeartbeats 4000000 in
set_option maxRecDepth 100000 in
theorem m_was (l : Launch) (D : va_G) (cJ cB cI cF : ClassId) (qm : Nat) (cd : Int32) (n : Nat) (qmr : Nat) (fm : Int32) (cm : Nat) (qmc : Nat) (szv : Nat) (qmb : Nat) (btv : Nat) (dm : Nat) (qml : Nat) (xs : Nat → Int64) (lm : Nat → Int64) (ys : Nat → Int64) (mm : Nat → Int32) (k : Nat) (sz : Nat) (hn0 : 0 < n) (hn : n ≤ 1024) (hk : k < 5) : Met l yMo_writeAs (Cond.code yMo_writeAs cMo_writeAs 2 (some .int) :: wsG) ({ frames := 6, cells := 0, slots := 0, locals := 175 }) (va_Pc [.ref qm, .int (nI k)] (cfPre D (cfT cJ cB cI cF) [(qm, .inr (9, [.int cd, .int (nI n), .ref qmr, .int fm, .int (nI cm), .ref qmc, .int (nI szv), .ref qmb, .int (nI btv), .int (nI dm), .ref qml])), (qmr, .inl (cJ, 1024, .inr (.inl xs))), (qml, .inl (cJ, 1024, .inr (.inl lm))), (qmc, .inl (cJ, 1024, .inr (.inl ys))), (qmb, .inl (cI, 10400, .inl mm))] sz)) (va_Qi (fun (r : Int32) (u : Nat × Nat × Nat × (Nat → Int32) × (Nat → Bool) × Nat × (Nat → Int64) × (Nat → Int64)) => r = nI u.2.1 ∧ (u.2.1 = (u.1 + 7) / 8) ∧ (u.2.2.1 = u.1 % 8) ∧ (mB u.2.2.2.1 u.1 u.2.2.2.2.1) ∧ (lF k xs n u.1 u.2.2.2.2.1) ∧ (u.1 ≤ 81936) ∧ (∀ j, j < n → u.2.2.2.2.2.2.2 j = xs j) ∧ True) (fun u t => cfPost D ((fun (u : Nat × Nat × Nat × (Nat → Int32) × (Nat → Bool) × Nat × (Nat → Int64) × (Nat → Int64)) => [(qm, .inr (9, [.int (nI 0), .int (nI n), .ref qmr, .int (nI k), .int (nI n), .ref qmc, .int (nI u.2.1), .ref qmb, .int (nI u.2.2.1), .int (nI u.2.2.2.2.2.1), .ref qml])), (qmr, .inl (cJ, 1024, .inr (.inl xs))), (qml, .inl (cJ, 1024, .inr (.inl u.2.2.2.2.2.2.1))), (qmc, .inl (cJ, 1024, .inr (.inl u.2.2.2.2.2.2.2))), (qmb, .inl (cI, 10400, .inl u.2.2.2.1))]) u) (va_A [(qm, .inr (9, [.int cd, .int (nI n), .ref qmr, .int fm, .int (nI cm), .ref qmc, .int (nI szv), .ref qmb, .int (nI btv), .int (nI dm), .ref qml])), (qmr, .inl (cJ, 1024, .inr (.inl xs))), (qml, .inl (cJ, 1024, .inr (.inl lm))), (qmc, .inl (cJ, 1024, .inr (.inl ys))), (qmb, .inl (cI, 10400, .inl mm))] sz) t) (va_A [(qm, .inr (9, [.int cd, .int (nI n), .ref qmr, .int fm, .int (nI cm), .ref qmc, .int (nI szv), .ref qmb, .int (nI btv), .int (nI dm), .ref qml])), (qmr, .inl (cJ, 1024, .inr (.inl xs))), (qml, .inl (cJ, 1024, .inr (.inl lm))), (qmc, .inl (cJ, 1024, .inr (.inl ys))), (qmb, .inl (cI, 10400, .inl mm))] sz)) 0 0 (va_A [(qm, .inr (9, [.int cd, .int (nI n), .ref qmr, .int fm, .int (nI cm), .ref qmc, .int (nI szv), .ref qmb, .int (nI btv), .int (nI dm), .ref qml])), (qmr, .inl (cJ, 1024, .inr (.inl xs))), (qml, .inl (cJ, 1024, .inr (.inl lm))), (qmc, .inl (cJ, 1024, .inr (.inl ys))), (qmb, .inl (cI, 10400, .inl mm))] sz) := by
  refine met_i (cc := cMo_writeAs) (maxL := 2) (S := Nat × Nat × Nat × (Nat → Int32) × (Nat → Bool) × Nat × (Nat → Int64) × (Nat → Int64)) (D := D) (wO := fun (u : Nat × Nat × Nat × (Nat → Int32) × (Nat → Bool) × Nat × (Nat → Int64) × (Nat → Int64)) => [(qm, .inr (9, [.int (nI 0), .int (nI n), .ref qmr, .int (nI k), .int (nI n), .ref qmc, .int (nI u.2.1), .ref qmb, .int (nI u.2.2.1), .int (nI u.2.2.2.2.2.1), .ref qml])), (qmr, .inl (cJ, 1024, .inr (.inl xs))), (qml, .inl (cJ, 1024, .inr (.inl u.2.2.2.2.2.2.1))), (qmc, .inl (cJ, 1024, .inr (.inl u.2.2.2.2.2.2.2))), (qmb, .inl (cI, 10400, .inl u.2.2.2.1))]) (by decide) (Nat.le_of_ble_eq_true rfl) ?_
  intro p e s m below meth c hx hb hml hown hts hlocks hin hWd A hA hsz hP hK hD hS Q hret ls hl
  have hown : s.vm.findClass "ColumnFormsModel" = some m.cls := hown
  have hl : lv_has ls 2 [(0, .ref qm), (1, .int (nI k))] := hl
  have hP : va_P D vwCl [(qm, .inr (9, [.int cd, .int (nI n), .ref qmr, .int fm, .int (nI cm), .ref qmc, .int (nI szv), .ref qmb, .int (nI btv), .int (nI dm), .ref qml])), (qmr, .inl (cJ, 1024, .inr (.inl xs))), (qml, .inl (cJ, 1024, .inr (.inl lm))), (qmc, .inl (cJ, 1024, .inr (.inl ys))), (qmb, .inl (cI, 10400, .inl mm))] s.heap := hP
  refine lv_aload_n hx hb dMo_writeAs_0 rfl (lv_at hl 0 rfl) ?_
  refine lv_iload_n hx hb dMo_writeAs_1 rfl (lv_at hl 1 rfl) ?_
  refine lv_if_lt (tgt := 10) hx hb dMo_writeAs_2 (by decide) (fun c2 => ?_) (fun c2 => ?_)
  · have c2 : k < 0 := (nI_ltI (b := 0) (by omega) (by omega)).mp c2
    exact absurd c2 (by omega)
  · have c2 : ¬ k < 0 := fun h => c2 ((nI_ltI (b := 0) (by omega) (by omega)).mpr h)
    refine lv_iload_n hx hb dMo_writeAs_5 rfl (lv_at hl 1 rfl) ?_
    refine lv_iconst (v := nI 4) hx hb dMo_writeAs_6 (by decide) ?_
    refine lv_icmp_le (tgt := 14) hx hb dMo_writeAs_7 (by decide) (fun c7 => ?_) (fun c7 => ?_)
    · have c7 : k ≤ 4 := (nI_leI (by omega) (by omega)).mp c7
      refine lv_aload_n hx hb dMo_writeAs_14 rfl (lv_at hl 0 rfl) ?_
      refine va_get (D := D) (ci := 9) (v := .int (nI n)) (C := "ColumnFormsModel") (T := TMo) (N := 11) hx hb hts inMo hown hK hP 0 rfl rfl 1 (by decide) (hts _ tw_590) (fun _ h9 => h9) rfl dMo_writeAs_15 ?_
      refine lv_if_ne (tgt := 25) hx hb dMo_writeAs_18 (by decide) (fun c18 => ?_) (fun c18 => ?_)
      · have c18 : ¬ n = 0 := fun h => c18 ((nI_eq (b := 0) (by omega) (by omega)).mpr h)
        refine lv_iconst (v := nI 0) hx hb dMo_writeAs_25 (by decide) ?_
        refine va_put (D := D) (ci := 9) (v := .int (nI 0)) (ty := .int) (C := "ColumnFormsModel") (T := TMo) (N := 11) hx hb hts inMo tyMo tyMo_ok nmMo hown hK hP hD hS 0 rfl rfl 0 (by decide) (hts _ tw_589) (fun _ h9 => h9) rfl (by decide +kernel) rfl rfl (Nat.le_of_ble_eq_true rfl) dMo_writeAs_26 (fun H locs hP hD hS => ?_)
        have hP : va_P D vwCl [(qm, .inr (9, [.int (nI 0), .int (nI n), .ref qmr, .int fm, .int (nI cm), .ref qmc, .int (nI szv), .ref qmb, .int (nI btv), .int (nI dm), .ref qml])), (qmr, .inl (cJ, 1024, .inr (.inl xs))), (qml, .inl (cJ, 1024, .inr (.inl lm))), (qmc, .inl (cJ, 1024, .inr (.inl ys))), (qmb, .inl (cI, 10400, .inl mm))] H := hP
        have hD : va_D A [(qm, .inr (9, [.int (nI 0), .int (nI n), .ref qmr, .int fm, .int (nI cm), .ref qmc, .int (nI szv), .ref qmb, .int (nI btv), .int (nI dm), .ref qml])), (qmr, .inl (cJ, 1024, .inr (.inl xs))), (qml, .inl (cJ, 1024, .inr (.inl lm))), (qmc, .inl (cJ, 1024, .inr (.inl ys))), (qmb, .inl (cI, 10400, .inl mm))] := hD
        refine lv_aload_n hx hb dMo_writeAs_29 rfl (lv_at hl 0 rfl) ?_
        refine va_get (D := D) (ci := 9) (v := .int (nI 0)) (C := "ColumnFormsModel") (T := TMo) (N := 11) hx hb hts inMo hown hK hP 0 rfl rfl 0 (by decide) (hts _ tw_589) (fun _ h9 => h9) rfl dMo_writeAs_30 ?_
        refine lv_if_le (tgt := 40) hx hb dMo_writeAs_33 (by decide) (fun c33 => ?_) (fun c33 => ?_)
        · have c33 : 0 ≤ 0 := (nI_leI (b := 0) (by omega) (by omega)).mp c33
          refine lv_aload_n hx hb dMo_writeAs_40 rfl (lv_at hl 0 rfl) ?_
          refine lv_iload_n hx hb dMo_writeAs_41 rfl (lv_at hl 1 rfl) ?_
          refine kc_i (wc := [(qm, .inr (9, [.int (nI 0), .int (nI n), .ref qmr, .int fm, .int (nI cm), .ref qmc, .int (nI szv), .ref qmb, .int (nI btv), .int (nI dm), .ref qml])), (qmr, .inl (cJ, 1024, .inr (.inl xs))), (qml, .inl (cJ, 1024, .inr (.inl lm))), (qmc, .inl (cJ, 1024, .inr (.inl ys))), (qmb, .inl (cI, 10400, .inl mm))]) (wr := []) hP hD hS hA [0, 1, 2, 3, 4] [] rfl rfl (by decide) (by decide) (by decide) (fun hPc hDc => va_runV (As := [.int (nI k)]) (rest := []) ⟨hx, hb, hml, hown, hts⟩ (m_wIn l D cJ cB cI cF qm (nI 0) n qmr fm cm qmc szv qmb btv dm qml xs lm ys mm k _ (hn0) (hn) (hk)) (cwV 1 hts (wsG_k tw_689 (wsG_k tw_691 (wsG_k tp_w20 (wsG_k tw_10 (wsG_c tw_692))))) rfl rfl rfl (by decide +kernel) ⟨Nat.le_of_ble_eq_true rfl, Nat.le_of_ble_eq_true rfl⟩) ⟨cf_blind, va_recv hK hPc (ci := 9) (q0 := 0) rfl rfl, cf_pre hPc hK hDc hWd⟩ rfl rfl hl.1 rfl (lv_room (Nat.le_of_ble_eq_true rfl)) dMo_writeAs_42 ⟨Nat.le_of_ble_eq_true rfl, Nat.le_of_ble_eq_true rfl⟩) (fun r u H locs hw hP hD hS => ?_)
          obtain ⟨bq9, s29, b29, m29, B29, d29, l29, y29⟩ := u
          obtain ⟨rfl, f19, f29, f39, f49, f59, f69, -⟩ := hw
          have f19 : s29 = (bq9 + 7) / 8 := f19
          have f29 : b29 = bq9 % 8 := f29
          have f39 : mB m29 bq9 B29 := f39
          have f49 : lF k xs n bq9 B29 := f49
          have f59 : bq9 ≤ 81936 := f59
          have f69 : ∀ j, j < n → y29 j = xs j := f69
          have hP : va_P D vwCl [(qm, .inr (9, [.int (nI 0), .int (nI n), .ref qmr, .int (nI k), .int (nI n), .ref qmc, .int (nI s29), .ref qmb, .int (nI b29), .int (nI d29), .ref qml])), (qmr, .inl (cJ, 1024, .inr (.inl xs))), (qml, .inl (cJ, 1024, .inr (.inl l29))), (qmc, .inl (cJ, 1024, .inr (.inl y29))), (qmb, .inl (cI, 10400, .inl m29))] H := hP
          have hD : va_D A [(qm, .inr (9, [.int (nI 0), .int (nI n), .ref qmr, .int (nI k), .int (nI n), .ref qmc, .int (nI s29), .ref qmb, .int (nI b29), .int (nI d29), .ref qml])), (qmr, .inl (cJ, 1024, .inr (.inl xs))), (qml, .inl (cJ, 1024, .inr (.inl l29))), (qmc, .inl (cJ, 1024, .inr (.inl y29))), (qmb, .inl (cI, 10400, .inl m29))] := hD
          exact hret (nI s29) (bq9, s29, b29, m29, B29, d29, l29, y29) _ _ _ _ _ _ ⟨rfl, f19, f29, f39, f49, f59, f69, trivial⟩ (hP.sub [0, 1, 2, 3, 4] rfl) (hD.sub [0, 1, 2, 3, 4] (by decide) rfl) hS (Nat.le_of_ble_eq_true rfl) (Nat.le_of_ble_eq_true rfl) dMo_writeAs_45
        · have c33 : ¬ 0 ≤ 0 := fun h => c33 ((nI_leI (b := 0) (by omega) (by omega)).mpr h)
          exact absurd c33 (by decide)
      · have c18 : n = 0 := (nI_eq (b := 0) (by omega) (by omega)).mp c18
        exact absurd c18 (by omega)
    · have c7 : ¬ k ≤ 4 := fun h => c7 ((nI_leI (by omega) (by omega)).mpr h)
      exact absurd c7 (by omega)

set_option maxHeartbeats 4000000 in
set_option maxRecDepth 100000 in
theorem m_wasX1 (l : Launch) (D : va_G) (cJ cB cI cF : ClassId) (qm : Nat) (cd : Int32) (n : Nat) (qmr : Nat) (fm : Int32) (cm : Nat) (qmc : Nat) (szv : Nat) (qmb : Nat) (btv : Nat) (dm : Nat) (qml : Nat) (fo : Int32) (sz : Nat) (hbad : ¬ ∃ j, j < 5 ∧ fo = nI j) : Met l yMo_writeAs (Cond.code yMo_writeAs cMo_writeAs 2 (some .int) :: wsG) ({ frames := 0, cells := 0, slots := 0, locals := 0 }) (va_Pc [.ref qm, .int fo] (cfPre D (cfT cJ cB cI cF) [(qm, .inr (9, [.int cd, .int (nI n), .ref qmr, .int fm, .int (nI cm), .ref qmc, .int (nI szv), .ref qmb, .int (nI btv), .int (nI dm), .ref qml]))] sz)) (va_Qi (fun (r : Int32) (u : Unit) => r = nI 0 ∧ True) (fun u t => cfPost D ((fun (u : Unit) => [(qm, .inr (9, [.int (nI 1), .int (nI n), .ref qmr, .int fm, .int (nI cm), .ref qmc, .int (nI szv), .ref qmb, .int (nI btv), .int (nI dm), .ref qml]))]) u) (va_A [(qm, .inr (9, [.int cd, .int (nI n), .ref qmr, .int fm, .int (nI cm), .ref qmc, .int (nI szv), .ref qmb, .int (nI btv), .int (nI dm), .ref qml]))] sz) t) (va_A [(qm, .inr (9, [.int cd, .int (nI n), .ref qmr, .int fm, .int (nI cm), .ref qmc, .int (nI szv), .ref qmb, .int (nI btv), .int (nI dm), .ref qml]))] sz)) 0 0 (va_A [(qm, .inr (9, [.int cd, .int (nI n), .ref qmr, .int fm, .int (nI cm), .ref qmc, .int (nI szv), .ref qmb, .int (nI btv), .int (nI dm), .ref qml]))] sz) := by
  refine met_i (cc := cMo_writeAs) (maxL := 2) (S := Unit) (D := D) (wO := fun (u : Unit) => [(qm, .inr (9, [.int (nI 1), .int (nI n), .ref qmr, .int fm, .int (nI cm), .ref qmc, .int (nI szv), .ref qmb, .int (nI btv), .int (nI dm), .ref qml]))]) (by decide) (Nat.le_of_ble_eq_true rfl) ?_
  intro p e s m below meth c hx hb hml hown hts hlocks hin hWd A hA hsz hP hK hD hS Q hret ls hl
  have hown : s.vm.findClass "ColumnFormsModel" = some m.cls := hown
  have hl : lv_has ls 2 [(0, .ref qm), (1, .int fo)] := hl
  have hP : va_P D vwCl [(qm, .inr (9, [.int cd, .int (nI n), .ref qmr, .int fm, .int (nI cm), .ref qmc, .int (nI szv), .ref qmb, .int (nI btv), .int (nI dm), .ref qml]))] s.heap := hP
  refine lv_aload_n hx hb dMo_writeAs_0 rfl (lv_at hl 0 rfl) ?_
  refine lv_iload_n hx hb dMo_writeAs_1 rfl (lv_at hl 1 rfl) ?_
  refine lv_if_lt (tgt := 10) hx hb dMo_writeAs_2 (by decide) (fun c2 => ?_) (fun c2 => ?_)
  · refine lv_iconst (v := nI 1) hx hb dMo_writeAs_10 (by decide) ?_
    refine lv_goto (tgt := 26) hx hb dMo_writeAs_11 (by decide) ?_
    refine va_put (D := D) (ci := 9) (v := .int (nI 1)) (ty := .int) (C := "ColumnFormsModel") (T := TMo) (N := 11) hx hb hts inMo tyMo tyMo_ok nmMo hown hK hP hD hS 0 rfl rfl 0 (by decide) (hts _ tw_589) (fun _ h9 => h9) rfl (by decide +kernel) rfl rfl (Nat.le_of_ble_eq_true rfl) dMo_writeAs_26 (fun H locs hP hD hS => ?_)
    have hP : va_P D vwCl [(qm, .inr (9, [.int (nI 1), .int (nI n), .ref qmr, .int fm, .int (nI cm), .ref qmc, .int (nI szv), .ref qmb, .int (nI btv), .int (nI dm), .ref qml]))] H := hP
    have hD : va_D A [(qm, .inr (9, [.int (nI 1), .int (nI n), .ref qmr, .int fm, .int (nI cm), .ref qmc, .int (nI szv), .ref qmb, .int (nI btv), .int (nI dm), .ref qml]))] := hD
    refine lv_aload_n hx hb dMo_writeAs_29 rfl (lv_at hl 0 rfl) ?_
    refine va_get (D := D) (ci := 9) (v := .int (nI 1)) (C := "ColumnFormsModel") (T := TMo) (N := 11) hx hb hts inMo hown hK hP 0 rfl rfl 0 (by decide) (hts _ tw_589) (fun _ h9 => h9) rfl dMo_writeAs_30 ?_
    refine lv_if_le (tgt := 40) hx hb dMo_writeAs_33 (by decide) (fun c33 => ?_) (fun c33 => ?_)
    · have c33 : 1 ≤ 0 := (nI_leI (b := 0) (by omega) (by omega)).mp c33
      exact absurd c33 (by decide)
    · have c33 : ¬ 1 ≤ 0 := fun h => c33 ((nI_leI (b := 0) (by omega) (by omega)).mpr h)
      refine lv_iconst (v := nI 0) hx hb dMo_writeAs_36 (by decide) ?_
      refine lv_goto (tgt := 45) hx hb dMo_writeAs_37 (by decide) ?_
      exact hret (nI 0) () _ _ _ _ _ _ ⟨rfl, trivial⟩ (hP.sub [0] rfl) (hD.sub [0] (by decide) rfl) hS (Nat.le_of_ble_eq_true rfl) (Nat.le_of_ble_eq_true rfl) dMo_writeAs_45
  · refine lv_iload_n hx hb dMo_writeAs_5 rfl (lv_at hl 1 rfl) ?_
    refine lv_iconst (v := nI 4) hx hb dMo_writeAs_6 (by decide) ?_
    refine lv_icmp_le (tgt := 14) hx hb dMo_writeAs_7 (by decide) (fun c7 => ?_) (fun c7 => ?_)
    · exact absurd (i_lt c2 (Int32.lt_of_le_of_lt c7 (by decide : nI 4 < nI 5)) (by omega)) hbad
    · refine lv_iconst (v := nI 1) hx hb dMo_writeAs_10 (by decide) ?_
      refine lv_goto (tgt := 26) hx hb dMo_writeAs_11 (by decide) ?_
      refine va_put (D := D) (ci := 9) (v := .int (nI 1)) (ty := .int) (C := "ColumnFormsModel") (T := TMo) (N := 11) hx hb hts inMo tyMo tyMo_ok nmMo hown hK hP hD hS 0 rfl rfl 0 (by decide) (hts _ tw_589) (fun _ h9 => h9) rfl (by decide +kernel) rfl rfl (Nat.le_of_ble_eq_true rfl) dMo_writeAs_26 (fun H locs hP hD hS => ?_)
      have hP : va_P D vwCl [(qm, .inr (9, [.int (nI 1), .int (nI n), .ref qmr, .int fm, .int (nI cm), .ref qmc, .int (nI szv), .ref qmb, .int (nI btv), .int (nI dm), .ref qml]))] H := hP
      have hD : va_D A [(qm, .inr (9, [.int (nI 1), .int (nI n), .ref qmr, .int fm, .int (nI cm), .ref qmc, .int (nI szv), .ref qmb, .int (nI btv), .int (nI dm), .ref qml]))] := hD
      refine lv_aload_n hx hb dMo_writeAs_29 rfl (lv_at hl 0 rfl) ?_
      refine va_get (D := D) (ci := 9) (v := .int (nI 1)) (C := "ColumnFormsModel") (T := TMo) (N := 11) hx hb hts inMo hown hK hP 0 rfl rfl 0 (by decide) (hts _ tw_589) (fun _ h9 => h9) rfl dMo_writeAs_30 ?_
      refine lv_if_le (tgt := 40) hx hb dMo_writeAs_33 (by decide) (fun c33 => ?_) (fun c33 => ?_)
      · have c33 : 1 ≤ 0 := (nI_leI (b := 0) (by omega) (by omega)).mp c33
        exact absurd c33 (by decide)
      · have c33 : ¬ 1 ≤ 0 := fun h => c33 ((nI_leI (b := 0) (by omega) (by omega)).mpr h)
        refine lv_iconst (v := nI 0) hx hb dMo_writeAs_36 (by decide) ?_
        refine lv_goto (tgt := 45) hx hb dMo_writeAs_37 (by decide) ?_
        exact hret (nI 0) () _ _ _ _ _ _ ⟨rfl, trivial⟩ (hP.sub [0] rfl) (hD.sub [0] (by decide) rfl) hS (Nat.le_of_ble_eq_true rfl) (Nat.le_of_ble_eq_true rfl) dMo_writeAs_45

set_option maxHeartbeats 4000000 in
set_option maxRecDepth 100000 in
theorem m_wasX2 (l : Launch) (D : va_G) (cJ cB cI cF : ClassId) (qm : Nat) (cd : Int32) (n : Nat) (qmr : Nat) (fm : Int32) (cm : Nat) (qmc : Nat) (szv : Nat) (qmb : Nat) (btv : Nat) (dm : Nat) (qml : Nat) (k : Nat) (sz : Nat) (hk : k < 5) (hn : n = 0) : Met l yMo_writeAs (Cond.code yMo_writeAs cMo_writeAs 2 (some .int) :: wsG) ({ frames := 0, cells := 0, slots := 0, locals := 0 }) (va_Pc [.ref qm, .int (nI k)] (cfPre D (cfT cJ cB cI cF) [(qm, .inr (9, [.int cd, .int (nI n), .ref qmr, .int fm, .int (nI cm), .ref qmc, .int (nI szv), .ref qmb, .int (nI btv), .int (nI dm), .ref qml]))] sz)) (va_Qi (fun (r : Int32) (u : Unit) => r = nI 0 ∧ True) (fun u t => cfPost D ((fun (u : Unit) => [(qm, .inr (9, [.int (nI 2), .int (nI n), .ref qmr, .int fm, .int (nI cm), .ref qmc, .int (nI szv), .ref qmb, .int (nI btv), .int (nI dm), .ref qml]))]) u) (va_A [(qm, .inr (9, [.int cd, .int (nI n), .ref qmr, .int fm, .int (nI cm), .ref qmc, .int (nI szv), .ref qmb, .int (nI btv), .int (nI dm), .ref qml]))] sz) t) (va_A [(qm, .inr (9, [.int cd, .int (nI n), .ref qmr, .int fm, .int (nI cm), .ref qmc, .int (nI szv), .ref qmb, .int (nI btv), .int (nI dm), .ref qml]))] sz)) 0 0 (va_A [(qm, .inr (9, [.int cd, .int (nI n), .ref qmr, .int fm, .int (nI cm), .ref qmc, .int (nI szv), .ref qmb, .int (nI btv), .int (nI dm), .ref qml]))] sz) := by
  refine met_i (cc := cMo_writeAs) (maxL := 2) (S := Unit) (D := D) (wO := fun (u : Unit) => [(qm, .inr (9, [.int (nI 2), .int (nI n), .ref qmr, .int fm, .int (nI cm), .ref qmc, .int (nI szv), .ref qmb, .int (nI btv), .int (nI dm), .ref qml]))]) (by decide) (Nat.le_of_ble_eq_true rfl) ?_
  intro p e s m below meth c hx hb hml hown hts hlocks hin hWd A hA hsz hP hK hD hS Q hret ls hl
  have hown : s.vm.findClass "ColumnFormsModel" = some m.cls := hown
  have hl : lv_has ls 2 [(0, .ref qm), (1, .int (nI k))] := hl
  have hP : va_P D vwCl [(qm, .inr (9, [.int cd, .int (nI n), .ref qmr, .int fm, .int (nI cm), .ref qmc, .int (nI szv), .ref qmb, .int (nI btv), .int (nI dm), .ref qml]))] s.heap := hP
  refine lv_aload_n hx hb dMo_writeAs_0 rfl (lv_at hl 0 rfl) ?_
  refine lv_iload_n hx hb dMo_writeAs_1 rfl (lv_at hl 1 rfl) ?_
  refine lv_if_lt (tgt := 10) hx hb dMo_writeAs_2 (by decide) (fun c2 => ?_) (fun c2 => ?_)
  · have c2 : k < 0 := (nI_ltI (b := 0) (by omega) (by omega)).mp c2
    exact absurd c2 (by omega)
  · have c2 : ¬ k < 0 := fun h => c2 ((nI_ltI (b := 0) (by omega) (by omega)).mpr h)
    refine lv_iload_n hx hb dMo_writeAs_5 rfl (lv_at hl 1 rfl) ?_
    refine lv_iconst (v := nI 4) hx hb dMo_writeAs_6 (by decide) ?_
    refine lv_icmp_le (tgt := 14) hx hb dMo_writeAs_7 (by decide) (fun c7 => ?_) (fun c7 => ?_)
    · have c7 : k ≤ 4 := (nI_leI (by omega) (by omega)).mp c7
      refine lv_aload_n hx hb dMo_writeAs_14 rfl (lv_at hl 0 rfl) ?_
      refine va_get (D := D) (ci := 9) (v := .int (nI n)) (C := "ColumnFormsModel") (T := TMo) (N := 11) hx hb hts inMo hown hK hP 0 rfl rfl 1 (by decide) (hts _ tw_590) (fun _ h9 => h9) rfl dMo_writeAs_15 ?_
      refine lv_if_ne (tgt := 25) hx hb dMo_writeAs_18 (by decide) (fun c18 => ?_) (fun c18 => ?_)
      · have c18 : ¬ n = 0 := fun h => c18 ((nI_eq (b := 0) (by omega) (by omega)).mpr h)
        exact absurd hn c18
      · have c18 : n = 0 := (nI_eq (b := 0) (by omega) (by omega)).mp c18
        refine lv_iconst (v := nI 2) hx hb dMo_writeAs_21 (by decide) ?_
        refine lv_goto (tgt := 26) hx hb dMo_writeAs_22 (by decide) ?_
        refine va_put (D := D) (ci := 9) (v := .int (nI 2)) (ty := .int) (C := "ColumnFormsModel") (T := TMo) (N := 11) hx hb hts inMo tyMo tyMo_ok nmMo hown hK hP hD hS 0 rfl rfl 0 (by decide) (hts _ tw_589) (fun _ h9 => h9) rfl (by decide +kernel) rfl rfl (Nat.le_of_ble_eq_true rfl) dMo_writeAs_26 (fun H locs hP hD hS => ?_)
        have hP : va_P D vwCl [(qm, .inr (9, [.int (nI 2), .int (nI n), .ref qmr, .int fm, .int (nI cm), .ref qmc, .int (nI szv), .ref qmb, .int (nI btv), .int (nI dm), .ref qml]))] H := hP
        have hD : va_D A [(qm, .inr (9, [.int (nI 2), .int (nI n), .ref qmr, .int fm, .int (nI cm), .ref qmc, .int (nI szv), .ref qmb, .int (nI btv), .int (nI dm), .ref qml]))] := hD
        refine lv_aload_n hx hb dMo_writeAs_29 rfl (lv_at hl 0 rfl) ?_
        refine va_get (D := D) (ci := 9) (v := .int (nI 2)) (C := "ColumnFormsModel") (T := TMo) (N := 11) hx hb hts inMo hown hK hP 0 rfl rfl 0 (by decide) (hts _ tw_589) (fun _ h9 => h9) rfl dMo_writeAs_30 ?_
        refine lv_if_le (tgt := 40) hx hb dMo_writeAs_33 (by decide) (fun c33 => ?_) (fun c33 => ?_)
        · have c33 : 2 ≤ 0 := (nI_leI (b := 0) (by omega) (by omega)).mp c33
          exact absurd c33 (by decide)
        · have c33 : ¬ 2 ≤ 0 := fun h => c33 ((nI_leI (b := 0) (by omega) (by omega)).mpr h)
          refine lv_iconst (v := nI 0) hx hb dMo_writeAs_36 (by decide) ?_
          refine lv_goto (tgt := 45) hx hb dMo_writeAs_37 (by decide) ?_
          exact hret (nI 0) () _ _ _ _ _ _ ⟨rfl, trivial⟩ (hP.sub [0] rfl) (hD.sub [0] (by decide) rfl) hS (Nat.le_of_ble_eq_true rfl) (Nat.le_of_ble_eq_true rfl) dMo_writeAs_45
    · have c7 : ¬ k ≤ 4 := fun h => c7 ((nI_leI (by omega) (by omega)).mpr h)
      exact absurd c7 (by omega)

set_option maxHeartbeats 4000000 in
set_option maxRecDepth 100000 in
theorem m_wriX (l : Launch) (D : va_G) (cJ cB cI cF : ClassId) (qm : Nat) (cd : Int32) (n : Nat) (qmr : Nat) (fm : Int32) (cm : Nat) (qmc : Nat) (szv : Nat) (qmb : Nat) (btv : Nat) (dm : Nat) (qml : Nat) (sz : Nat) (hn : n = 0) : Met l yMo_write (Cond.code yMo_write cMo_write 3 (some .int) :: wsG) ({ frames := 0, cells := 0, slots := 0, locals := 0 }) (va_Pc [.ref qm] (cfPre D (cfT cJ cB cI cF) [(qm, .inr (9, [.int cd, .int (nI n), .ref qmr, .int fm, .int (nI cm), .ref qmc, .int (nI szv), .ref qmb, .int (nI btv), .int (nI dm), .ref qml]))] sz)) (va_Qi (fun (r : Int32) (u : Unit) => r = nI 0 ∧ True) (fun u t => cfPost D ((fun (u : Unit) => [(qm, .inr (9, [.int (nI 1), .int (nI n), .ref qmr, .int fm, .int (nI cm), .ref qmc, .int (nI szv), .ref qmb, .int (nI btv), .int (nI dm), .ref qml]))]) u) (va_A [(qm, .inr (9, [.int cd, .int (nI n), .ref qmr, .int fm, .int (nI cm), .ref qmc, .int (nI szv), .ref qmb, .int (nI btv), .int (nI dm), .ref qml]))] sz) t) (va_A [(qm, .inr (9, [.int cd, .int (nI n), .ref qmr, .int fm, .int (nI cm), .ref qmc, .int (nI szv), .ref qmb, .int (nI btv), .int (nI dm), .ref qml]))] sz)) 0 0 (va_A [(qm, .inr (9, [.int cd, .int (nI n), .ref qmr, .int fm, .int (nI cm), .ref qmc, .int (nI szv), .ref qmb, .int (nI btv), .int (nI dm), .ref qml]))] sz) := by
  refine met_i (cc := cMo_write) (maxL := 3) (S := Unit) (D := D) (wO := fun (u : Unit) => [(qm, .inr (9, [.int (nI 1), .int (nI n), .ref qmr, .int fm, .int (nI cm), .ref qmc, .int (nI szv), .ref qmb, .int (nI btv), .int (nI dm), .ref qml]))]) (by decide) (Nat.le_of_ble_eq_true rfl) ?_
  intro p e s m below meth c hx hb hml hown hts hlocks hin hWd A hA hsz hP hK hD hS Q hret ls hl
  have hown : s.vm.findClass "ColumnFormsModel" = some m.cls := hown
  have hl : lv_has ls 3 [(0, .ref qm)] := hl
  have hP : va_P D vwCl [(qm, .inr (9, [.int cd, .int (nI n), .ref qmr, .int fm, .int (nI cm), .ref qmc, .int (nI szv), .ref qmb, .int (nI btv), .int (nI dm), .ref qml]))] s.heap := hP
  refine lv_aload_n hx hb dMo_write_0 rfl (lv_at hl 0 rfl) ?_
  refine lv_aload_n hx hb dMo_write_1 rfl (lv_at hl 0 rfl) ?_
  refine va_get (D := D) (ci := 9) (v := .int (nI n)) (C := "ColumnFormsModel") (T := TMo) (N := 11) hx hb hts inMo hown hK hP 0 rfl rfl 1 (by decide) (hts _ tw_590) (fun _ h9 => h9) rfl dMo_write_2 ?_
  refine lv_if_ne (tgt := 12) hx hb dMo_write_5 (by decide) (fun c5 => ?_) (fun c5 => ?_)
  · have c5 : ¬ n = 0 := fun h => c5 ((nI_eq (b := 0) (by omega) (by omega)).mpr h)
    exact absurd hn c5
  · have c5 : n = 0 := (nI_eq (b := 0) (by omega) (by omega)).mp c5
    refine lv_iconst (v := nI 1) hx hb dMo_write_8 (by decide) ?_
    refine lv_goto (tgt := 13) hx hb dMo_write_9 (by decide) ?_
    refine va_put (D := D) (ci := 9) (v := .int (nI 1)) (ty := .int) (C := "ColumnFormsModel") (T := TMo) (N := 11) hx hb hts inMo tyMo tyMo_ok nmMo hown hK hP hD hS 0 rfl rfl 0 (by decide) (hts _ tw_589) (fun _ h9 => h9) rfl (by decide +kernel) rfl rfl (Nat.le_of_ble_eq_true rfl) dMo_write_13 (fun H locs hP hD hS => ?_)
    have hP : va_P D vwCl [(qm, .inr (9, [.int (nI 1), .int (nI n), .ref qmr, .int fm, .int (nI cm), .ref qmc, .int (nI szv), .ref qmb, .int (nI btv), .int (nI dm), .ref qml]))] H := hP
    have hD : va_D A [(qm, .inr (9, [.int (nI 1), .int (nI n), .ref qmr, .int fm, .int (nI cm), .ref qmc, .int (nI szv), .ref qmb, .int (nI btv), .int (nI dm), .ref qml]))] := hD
    refine lv_aload_n hx hb dMo_write_16 rfl (lv_at hl 0 rfl) ?_
    refine va_get (D := D) (ci := 9) (v := .int (nI 1)) (C := "ColumnFormsModel") (T := TMo) (N := 11) hx hb hts inMo hown hK hP 0 rfl rfl 0 (by decide) (hts _ tw_589) (fun _ h9 => h9) rfl dMo_write_17 ?_
    refine lv_if_le (tgt := 25) hx hb dMo_write_20 (by decide) (fun c20 => ?_) (fun c20 => ?_)
    · have c20 : 1 ≤ 0 := (nI_leI (b := 0) (by omega) (by omega)).mp c20
      exact absurd c20 (by decide)
    · have c20 : ¬ 1 ≤ 0 := fun h => c20 ((nI_leI (b := 0) (by omega) (by omega)).mpr h)
      refine lv_iconst (v := nI 0) hx hb dMo_write_23 (by decide) ?_
      exact hret (nI 0) () _ _ _ _ _ _ ⟨rfl, trivial⟩ (hP.sub [0] rfl) (hD.sub [0] (by decide) rfl) hS (Nat.le_of_ble_eq_true rfl) (Nat.le_of_ble_eq_true rfl) dMo_write_24

set_option maxHeartbeats 4000000 in
set_option maxRecDepth 100000 in
theorem m_wri (l : Launch) (D : va_G) (cJ cB cI cF : ClassId) (qm : Nat) (cd : Int32) (n : Nat) (qmr : Nat) (fm : Int32) (cm : Nat) (qmc : Nat) (szv : Nat) (qmb : Nat) (btv : Nat) (dm : Nat) (qml : Nat) (xs : Nat → Int64) (lm : Nat → Int64) (ys : Nat → Int64) (mm : Nat → Int32) (rs : Nat → Int64) (d : Nat) (sz : Nat) (hn0 : 0 < n) (hn : n ≤ 1024) (hI : rInv xs n rs d) : Met l yMo_write (Cond.code yMo_write cMo_write 3 (some .int) :: wsG) ({ frames := 6, cells := 0, slots := 0, locals := 175 }) (va_Pc [.ref qm] (cfPre D (cfT cJ cB cI cF) [(qm, .inr (9, [.int cd, .int (nI n), .ref qmr, .int fm, .int (nI cm), .ref qmc, .int (nI szv), .ref qmb, .int (nI btv), .int (nI dm), .ref qml])), (qmr, .inl (cJ, 1024, .inr (.inl xs))), (qml, .inl (cJ, 1024, .inr (.inl lm))), (qmc, .inl (cJ, 1024, .inr (.inl ys))), (qmb, .inl (cI, 10400, .inl mm))] sz)) (va_Qi (fun (r : Int32) (u : Nat × Nat × Nat × Nat × (Nat → Int32) × (Nat → Bool) × Nat × (Nat → Int64) × (Nat → Int64)) => r = nI u.2.2.1 ∧ (bsP (wGt n d (rRn xs n) (rLo xs n) (rHi xs n) (sLo xs n) (sHi xs n)) 5 u.1) ∧ (u.2.2.1 = (u.2.1 + 7) / 8) ∧ (u.2.2.2.1 = u.2.1 % 8) ∧ (mB u.2.2.2.2.1 u.2.1 u.2.2.2.2.2.1) ∧ (lF u.1 xs n u.2.1 u.2.2.2.2.2.1) ∧ (u.2.1 ≤ 81936) ∧ (∀ j, j < n → u.2.2.2.2.2.2.2.2 j = xs j) ∧ True) (fun u t => cfPost D ((fun (u : Nat × Nat × Nat × Nat × (Nat → Int32) × (Nat → Bool) × Nat × (Nat → Int64) × (Nat → Int64)) => [(qm, .inr (9, [.int (nI 0), .int (nI n), .ref qmr, .int (nI u.1), .int (nI n), .ref qmc, .int (nI u.2.2.1), .ref qmb, .int (nI u.2.2.2.1), .int (nI u.2.2.2.2.2.2.1), .ref qml])), (qmr, .inl (cJ, 1024, .inr (.inl xs))), (qml, .inl (cJ, 1024, .inr (.inl u.2.2.2.2.2.2.2.1))), (qmc, .inl (cJ, 1024, .inr (.inl u.2.2.2.2.2.2.2.2))), (qmb, .inl (cI, 10400, .inl u.2.2.2.2.1))]) u) (va_A [(qm, .inr (9, [.int cd, .int (nI n), .ref qmr, .int fm, .int (nI cm), .ref qmc, .int (nI szv), .ref qmb, .int (nI btv), .int (nI dm), .ref qml])), (qmr, .inl (cJ, 1024, .inr (.inl xs))), (qml, .inl (cJ, 1024, .inr (.inl lm))), (qmc, .inl (cJ, 1024, .inr (.inl ys))), (qmb, .inl (cI, 10400, .inl mm))] sz) t) (va_A [(qm, .inr (9, [.int cd, .int (nI n), .ref qmr, .int fm, .int (nI cm), .ref qmc, .int (nI szv), .ref qmb, .int (nI btv), .int (nI dm), .ref qml])), (qmr, .inl (cJ, 1024, .inr (.inl xs))), (qml, .inl (cJ, 1024, .inr (.inl lm))), (qmc, .inl (cJ, 1024, .inr (.inl ys))), (qmb, .inl (cI, 10400, .inl mm))] sz)) 0 0 (va_A [(qm, .inr (9, [.int cd, .int (nI n), .ref qmr, .int fm, .int (nI cm), .ref qmc, .int (nI szv), .ref qmb, .int (nI btv), .int (nI dm), .ref qml])), (qmr, .inl (cJ, 1024, .inr (.inl xs))), (qml, .inl (cJ, 1024, .inr (.inl lm))), (qmc, .inl (cJ, 1024, .inr (.inl ys))), (qmb, .inl (cI, 10400, .inl mm))] sz) := by
  refine met_i (cc := cMo_write) (maxL := 3) (S := Nat × Nat × Nat × Nat × (Nat → Int32) × (Nat → Bool) × Nat × (Nat → Int64) × (Nat → Int64)) (D := D) (wO := fun (u : Nat × Nat × Nat × Nat × (Nat → Int32) × (Nat → Bool) × Nat × (Nat → Int64) × (Nat → Int64)) => [(qm, .inr (9, [.int (nI 0), .int (nI n), .ref qmr, .int (nI u.1), .int (nI n), .ref qmc, .int (nI u.2.2.1), .ref qmb, .int (nI u.2.2.2.1), .int (nI u.2.2.2.2.2.2.1), .ref qml])), (qmr, .inl (cJ, 1024, .inr (.inl xs))), (qml, .inl (cJ, 1024, .inr (.inl u.2.2.2.2.2.2.2.1))), (qmc, .inl (cJ, 1024, .inr (.inl u.2.2.2.2.2.2.2.2))), (qmb, .inl (cI, 10400, .inl u.2.2.2.2.1))]) (by decide) (Nat.le_of_ble_eq_true rfl) ?_
  intro p e s m below meth c hx hb hml hown hts hlocks hin hWd A hA hsz hP hK hD hS Q hret ls hl
  have hown : s.vm.findClass "ColumnFormsModel" = some m.cls := hown
  have hl : lv_has ls 3 [(0, .ref qm)] := hl
  have hP : va_P D vwCl [(qm, .inr (9, [.int cd, .int (nI n), .ref qmr, .int fm, .int (nI cm), .ref qmc, .int (nI szv), .ref qmb, .int (nI btv), .int (nI dm), .ref qml])), (qmr, .inl (cJ, 1024, .inr (.inl xs))), (qml, .inl (cJ, 1024, .inr (.inl lm))), (qmc, .inl (cJ, 1024, .inr (.inl ys))), (qmb, .inl (cI, 10400, .inl mm))] s.heap := hP
  have hwg := wGt_le (n := n) (d := d) (rn := rRn xs n) (lo := rLo xs n) (hi := rHi xs n) (sl := sLo xs n) (sh := sHi xs n) hn (by have := hI.2.1; omega) (by have := rRn_le (xs := xs) n; omega)
  refine lv_aload_n hx hb dMo_write_0 rfl (lv_at hl 0 rfl) ?_
  refine lv_aload_n hx hb dMo_write_1 rfl (lv_at hl 0 rfl) ?_
  refine va_get (D := D) (ci := 9) (v := .int (nI n)) (C := "ColumnFormsModel") (T := TMo) (N := 11) hx hb hts inMo hown hK hP 0 rfl rfl 1 (by decide) (hts _ tw_590) (fun _ h9 => h9) rfl dMo_write_2 ?_
  refine lv_if_ne (tgt := 12) hx hb dMo_write_5 (by decide) (fun c5 => ?_) (fun c5 => ?_)
  · have c5 : ¬ n = 0 := fun h => c5 ((nI_eq (b := 0) (by omega) (by omega)).mpr h)
    refine lv_iconst (v := nI 0) hx hb dMo_write_12 (by decide) ?_
    refine va_put (D := D) (ci := 9) (v := .int (nI 0)) (ty := .int) (C := "ColumnFormsModel") (T := TMo) (N := 11) hx hb hts inMo tyMo tyMo_ok nmMo hown hK hP hD hS 0 rfl rfl 0 (by decide) (hts _ tw_589) (fun _ h9 => h9) rfl (by decide +kernel) rfl rfl (Nat.le_of_ble_eq_true rfl) dMo_write_13 (fun H locs hP hD hS => ?_)
    have hP : va_P D vwCl [(qm, .inr (9, [.int (nI 0), .int (nI n), .ref qmr, .int fm, .int (nI cm), .ref qmc, .int (nI szv), .ref qmb, .int (nI btv), .int (nI dm), .ref qml])), (qmr, .inl (cJ, 1024, .inr (.inl xs))), (qml, .inl (cJ, 1024, .inr (.inl lm))), (qmc, .inl (cJ, 1024, .inr (.inl ys))), (qmb, .inl (cI, 10400, .inl mm))] H := hP
    have hD : va_D A [(qm, .inr (9, [.int (nI 0), .int (nI n), .ref qmr, .int fm, .int (nI cm), .ref qmc, .int (nI szv), .ref qmb, .int (nI btv), .int (nI dm), .ref qml])), (qmr, .inl (cJ, 1024, .inr (.inl xs))), (qml, .inl (cJ, 1024, .inr (.inl lm))), (qmc, .inl (cJ, 1024, .inr (.inl ys))), (qmb, .inl (cI, 10400, .inl mm))] := hD
    refine lv_aload_n hx hb dMo_write_16 rfl (lv_at hl 0 rfl) ?_
    refine va_get (D := D) (ci := 9) (v := .int (nI 0)) (C := "ColumnFormsModel") (T := TMo) (N := 11) hx hb hts inMo hown hK hP 0 rfl rfl 0 (by decide) (hts _ tw_589) (fun _ h9 => h9) rfl dMo_write_17 ?_
    refine lv_if_le (tgt := 25) hx hb dMo_write_20 (by decide) (fun c20 => ?_) (fun c20 => ?_)
    · have c20 : 0 ≤ 0 := (nI_leI (b := 0) (by omega) (by omega)).mp c20
      refine lv_iconst (v := nI 0) hx hb dMo_write_25 (by decide) ?_
      refine lv_istore_n (lv' := [(1, .int (nI 0)), (0, .ref qm)]) hx hb dMo_write_26 rfl hl (by decide) rfl (fun ls hl => ?_)
      have ct5 : ∀ (best : Nat) (dd : Nat) (ll : Nat → Int64), (bsP (wGt n d (rRn xs n) (rLo xs n) (rHi xs n) (sLo xs n) (sHi xs n)) 5 best) → ∀ (H : Heap) (locs : List Loc) (ls : Array Slot), va_P D vwCl [(qm, .inr (9, [.int (nI 0), .int (nI n), .ref qmr, .int fm, .int (nI cm), .ref qmc, .int (nI szv), .ref qmb, .int (nI btv), .int (nI dd), .ref qml])), (qmr, .inl (cJ, 1024, .inr (.inl xs))), (qml, .inl (cJ, 1024, .inr (.inl ll))), (qmc, .inl (cJ, 1024, .inr (.inl ys))), (qmb, .inl (cI, 10400, .inl mm))] H → va_D A [(qm, .inr (9, [.int (nI 0), .int (nI n), .ref qmr, .int fm, .int (nI cm), .ref qmc, .int (nI szv), .ref qmb, .int (nI btv), .int (nI dd), .ref qml])), (qmr, .inl (cJ, 1024, .inr (.inl xs))), (qml, .inl (cJ, 1024, .inr (.inl ll))), (qmc, .inl (cJ, 1024, .inr (.inl ys))), (qmb, .inl (cI, 10400, .inl mm))] → va_S A s.heap H locs → lv_has ls 3 [(0, .ref qm), (1, .int (nI best)), (2, .int (nI 5))] → W p l e ({ frames := 6, cells := 0, slots := 0, locals := 175 }) s m ([.ref qm].toArray) below meth c H locs (0) (0) Q (F0 m 29 ls []) := by
        intro best dd ll g1 H locs ls hP hD hS hl
        refine lv_iload_n hx hb dMo_write_29 rfl (lv_at hl 2 rfl) ?_
        refine lv_iconst (v := nI 5) hx hb dMo_write_30 (by decide) ?_
        refine lv_icmp_ge (tgt := 59) hx hb dMo_write_31 (by decide) (fun c31 => ?_) (fun c31 => ?_)
        · have c31 : 5 ≤ 5 := (nI_leI (by omega) (by omega)).mp c31
          refine lv_aload_n hx hb dMo_write_59 rfl (lv_at hl 0 rfl) ?_
          refine lv_iload_n hx hb dMo_write_60 rfl (lv_at hl 1 rfl) ?_
          refine kc_i (wc := [(qm, .inr (9, [.int (nI 0), .int (nI n), .ref qmr, .int fm, .int (nI cm), .ref qmc, .int (nI szv), .ref qmb, .int (nI btv), .int (nI dd), .ref qml])), (qmr, .inl (cJ, 1024, .inr (.inl xs))), (qml, .inl (cJ, 1024, .inr (.inl ll))), (qmc, .inl (cJ, 1024, .inr (.inl ys))), (qmb, .inl (cI, 10400, .inl mm))]) (wr := []) hP hD hS hA [0, 1, 2, 3, 4] [] rfl rfl (by decide) (by decide) (by decide) (fun hPc hDc => va_runV (As := [.int (nI best)]) (rest := []) ⟨hx, hb, hml, hown, hts⟩ (m_wIn l D cJ cB cI cF qm (nI 0) n qmr fm cm qmc szv qmb btv dd qml xs ll ys mm best _ (hn0) (hn) (g1.1)) (cwV 1 hts (wsG_k tw_689 (wsG_k tw_691 (wsG_k tp_w20 (wsG_k tw_10 (wsG_c tw_692))))) rfl rfl rfl (by decide +kernel) ⟨Nat.le_of_ble_eq_true rfl, Nat.le_of_ble_eq_true rfl⟩) ⟨cf_blind, va_recv hK hPc (ci := 9) (q0 := 0) rfl rfl, cf_pre hPc hK hDc hWd⟩ rfl rfl hl.1 rfl (lv_room (Nat.le_of_ble_eq_true rfl)) dMo_write_61 ⟨Nat.le_of_ble_eq_true rfl, Nat.le_of_ble_eq_true rfl⟩) (fun r u H locs hw hP hD hS => ?_)
          obtain ⟨bq9, s29, b29, m29, B29, d29, l29, y29⟩ := u
          obtain ⟨rfl, f19, f29, f39, f49, f59, f69, -⟩ := hw
          have f19 : s29 = (bq9 + 7) / 8 := f19
          have f29 : b29 = bq9 % 8 := f29
          have f39 : mB m29 bq9 B29 := f39
          have f49 : lF best xs n bq9 B29 := f49
          have f59 : bq9 ≤ 81936 := f59
          have f69 : ∀ j, j < n → y29 j = xs j := f69
          have hP : va_P D vwCl [(qm, .inr (9, [.int (nI 0), .int (nI n), .ref qmr, .int (nI best), .int (nI n), .ref qmc, .int (nI s29), .ref qmb, .int (nI b29), .int (nI d29), .ref qml])), (qmr, .inl (cJ, 1024, .inr (.inl xs))), (qml, .inl (cJ, 1024, .inr (.inl l29))), (qmc, .inl (cJ, 1024, .inr (.inl y29))), (qmb, .inl (cI, 10400, .inl m29))] H := hP
          have hD : va_D A [(qm, .inr (9, [.int (nI 0), .int (nI n), .ref qmr, .int (nI best), .int (nI n), .ref qmc, .int (nI s29), .ref qmb, .int (nI b29), .int (nI d29), .ref qml])), (qmr, .inl (cJ, 1024, .inr (.inl xs))), (qml, .inl (cJ, 1024, .inr (.inl l29))), (qmc, .inl (cJ, 1024, .inr (.inl y29))), (qmb, .inl (cI, 10400, .inl m29))] := hD
          exact hret (nI s29) (best, bq9, s29, b29, m29, B29, d29, l29, y29) _ _ _ _ _ _ ⟨rfl, g1, f19, f29, f39, f49, f59, f69, trivial⟩ (hP.sub [0, 1, 2, 3, 4] rfl) (hD.sub [0, 1, 2, 3, 4] (by decide) rfl) hS (Nat.le_of_ble_eq_true rfl) (Nat.le_of_ble_eq_true rfl) dMo_write_64
        · have c31 : ¬ 5 ≤ 5 := fun h => c31 ((nI_leI (by omega) (by omega)).mpr h)
          exact absurd c31 (by decide)
      have ct4 : ∀ (best : Nat) (dd : Nat) (ll : Nat → Int64), (bsP (wGt n d (rRn xs n) (rLo xs n) (rHi xs n) (sLo xs n) (sHi xs n)) 4 best) → ∀ (H : Heap) (locs : List Loc) (ls : Array Slot), va_P D vwCl [(qm, .inr (9, [.int (nI 0), .int (nI n), .ref qmr, .int fm, .int (nI cm), .ref qmc, .int (nI szv), .ref qmb, .int (nI btv), .int (nI dd), .ref qml])), (qmr, .inl (cJ, 1024, .inr (.inl xs))), (qml, .inl (cJ, 1024, .inr (.inl ll))), (qmc, .inl (cJ, 1024, .inr (.inl ys))), (qmb, .inl (cI, 10400, .inl mm))] H → va_D A [(qm, .inr (9, [.int (nI 0), .int (nI n), .ref qmr, .int fm, .int (nI cm), .ref qmc, .int (nI szv), .ref qmb, .int (nI btv), .int (nI dd), .ref qml])), (qmr, .inl (cJ, 1024, .inr (.inl xs))), (qml, .inl (cJ, 1024, .inr (.inl ll))), (qmc, .inl (cJ, 1024, .inr (.inl ys))), (qmb, .inl (cI, 10400, .inl mm))] → va_S A s.heap H locs → lv_has ls 3 [(0, .ref qm), (1, .int (nI best)), (2, .int (nI 4))] → W p l e ({ frames := 6, cells := 0, slots := 0, locals := 175 }) s m ([.ref qm].toArray) below meth c H locs (0) (0) Q (F0 m 29 ls []) := by
        intro best dd ll g1 H locs ls hP hD hS hl
        refine lv_iload_n hx hb dMo_write_29 rfl (lv_at hl 2 rfl) ?_
        refine lv_iconst (v := nI 5) hx hb dMo_write_30 (by decide) ?_
        refine lv_icmp_ge (tgt := 59) hx hb dMo_write_31 (by decide) (fun c31 => ?_) (fun c31 => ?_)
        · have c31 : 5 ≤ 4 := (nI_leI (by omega) (by omega)).mp c31
          exact absurd c31 (by decide)
        · have c31 : ¬ 5 ≤ 4 := fun h => c31 ((nI_leI (by omega) (by omega)).mpr h)
          refine lv_aload_n hx hb dMo_write_34 rfl (lv_at hl 0 rfl) ?_
          refine lv_iload_n hx hb dMo_write_35 rfl (lv_at hl 2 rfl) ?_
          refine kc_i (wc := [(qm, .inr (9, [.int (nI 0), .int (nI n), .ref qmr, .int fm, .int (nI cm), .ref qmc, .int (nI szv), .ref qmb, .int (nI btv), .int (nI dd), .ref qml])), (qmr, .inl (cJ, 1024, .inr (.inl xs))), (qml, .inl (cJ, 1024, .inr (.inl ll)))]) (wr := [(qmc, .inl (cJ, 1024, .inr (.inl ys))), (qmb, .inl (cI, 10400, .inl mm))]) hP hD hS hA [0, 1, 2] [3, 4] rfl rfl (by decide) (by decide) (by decide) (fun hPc hDc => va_runV (As := [.int (nI 4)]) (rest := []) ⟨hx, hb, hml, hown, hts⟩ (m_weigh_4 l D cJ cB cI cF qm (nI 0) n qmr fm cm qmc szv qmb btv dd qml xs ll rs d _ (hn0) (hn) (hI)) (cwV 1 hts (wsG_k tw_643 (wsG_k tw_645 (wsG_k tp_w11 (wsG_k tw_10 (wsG_c tw_646))))) rfl rfl rfl (by decide +kernel) ⟨Nat.le_of_ble_eq_true rfl, Nat.le_of_ble_eq_true rfl⟩) ⟨cf_blind, va_recv hK hPc (ci := 9) (q0 := 0) rfl rfl, cf_pre hPc hK hDc hWd⟩ rfl rfl hl.1 rfl (lv_room (Nat.le_of_ble_eq_true rfl)) dMo_write_36 ⟨Nat.le_of_ble_eq_true rfl, Nat.le_of_ble_eq_true rfl⟩) (fun r u H locs hw hP hD hS => ?_)
          obtain ⟨d2_1, l2_2⟩ := u
          obtain ⟨rfl, -⟩ := hw
          have hP : va_P D vwCl [(qmc, .inl (cJ, 1024, .inr (.inl ys))), (qmb, .inl (cI, 10400, .inl mm)), (qm, .inr (9, [.int (nI 0), .int (nI n), .ref qmr, .int fm, .int (nI cm), .ref qmc, .int (nI szv), .ref qmb, .int (nI btv), .int (nI d2_1), .ref qml])), (qmr, .inl (cJ, 1024, .inr (.inl xs))), (qml, .inl (cJ, 1024, .inr (.inl l2_2)))] H := hP
          have hD : va_D A [(qmc, .inl (cJ, 1024, .inr (.inl ys))), (qmb, .inl (cI, 10400, .inl mm)), (qm, .inr (9, [.int (nI 0), .int (nI n), .ref qmr, .int fm, .int (nI cm), .ref qmc, .int (nI szv), .ref qmb, .int (nI btv), .int (nI d2_1), .ref qml])), (qmr, .inl (cJ, 1024, .inr (.inl xs))), (qml, .inl (cJ, 1024, .inr (.inl l2_2)))] := hD
          refine lv_aload_n hx hb dMo_write_39 rfl (lv_at hl 0 rfl) ?_
          refine lv_iload_n hx hb dMo_write_40 rfl (lv_at hl 1 rfl) ?_
          refine kc_i (wc := [(qm, .inr (9, [.int (nI 0), .int (nI n), .ref qmr, .int fm, .int (nI cm), .ref qmc, .int (nI szv), .ref qmb, .int (nI btv), .int (nI d2_1), .ref qml])), (qmr, .inl (cJ, 1024, .inr (.inl xs))), (qml, .inl (cJ, 1024, .inr (.inl l2_2)))]) (wr := [(qmc, .inl (cJ, 1024, .inr (.inl ys))), (qmb, .inl (cI, 10400, .inl mm))]) hP hD hS hA [2, 3, 4] [0, 1] rfl rfl (by decide) (by decide) (by decide) (fun hPc hDc => va_runV (As := [.int (nI best)]) (rest := [.int (nI (wGt n d (rRn xs n) (rLo xs n) (rHi xs n) (sLo xs n) (sHi xs n) 4))]) ⟨hx, hb, hml, hown, hts⟩ (m_weigh l D cJ cB cI cF qm (nI 0) n qmr fm cm qmc szv qmb btv d2_1 qml xs l2_2 rs d best _ (hn0) (hn) (hI) (by have := g1.1; omega)) (cwV 1 hts (wsG_k tw_643 (wsG_k tw_645 (wsG_k tp_w11 (wsG_k tw_10 (wsG_c tw_646))))) rfl rfl rfl (by decide +kernel) ⟨Nat.le_of_ble_eq_true rfl, Nat.le_of_ble_eq_true rfl⟩) ⟨cf_blind, va_recv hK hPc (ci := 9) (q0 := 0) rfl rfl, cf_pre hPc hK hDc hWd⟩ rfl rfl hl.1 rfl (lv_room (Nat.le_of_ble_eq_true rfl)) dMo_write_41 ⟨Nat.le_of_ble_eq_true rfl, Nat.le_of_ble_eq_true rfl⟩) (fun r u H locs hw hP hD hS => ?_)
          obtain ⟨d2_3, l2_4⟩ := u
          obtain ⟨rfl, -⟩ := hw
          have hP : va_P D vwCl [(qmc, .inl (cJ, 1024, .inr (.inl ys))), (qmb, .inl (cI, 10400, .inl mm)), (qm, .inr (9, [.int (nI 0), .int (nI n), .ref qmr, .int fm, .int (nI cm), .ref qmc, .int (nI szv), .ref qmb, .int (nI btv), .int (nI d2_3), .ref qml])), (qmr, .inl (cJ, 1024, .inr (.inl xs))), (qml, .inl (cJ, 1024, .inr (.inl l2_4)))] H := hP
          have hD : va_D A [(qmc, .inl (cJ, 1024, .inr (.inl ys))), (qmb, .inl (cI, 10400, .inl mm)), (qm, .inr (9, [.int (nI 0), .int (nI n), .ref qmr, .int fm, .int (nI cm), .ref qmc, .int (nI szv), .ref qmb, .int (nI btv), .int (nI d2_3), .ref qml])), (qmr, .inl (cJ, 1024, .inr (.inl xs))), (qml, .inl (cJ, 1024, .inr (.inl l2_4)))] := hD
          refine lv_icmp_ge (tgt := 51) hx hb dMo_write_44 (by decide) (fun c44 => ?_) (fun c44 => ?_)
          · have c44 := Nat.not_lt.mpr ((nI_leI (by have := hwg best; omega) (by have := hwg 4; omega)).mp c44)
            refine lv_iload_n hx hb dMo_write_51 rfl (lv_at hl 1 rfl) ?_
            refine lv_istore_n (lv' := [(1, .int (nI best)), (0, .ref qm), (2, .int (nI 4))]) hx hb dMo_write_52 rfl hl (by decide) rfl (fun ls hl => ?_)
            refine lv_iinc (v := nI 5) (lv' := [(2, .int (nI 5)), (1, .int (nI best)), (0, .ref qm)]) hx hb dMo_write_53 hl (k := 2) rfl (by decide) (by decide) rfl (fun ls hl => ?_)
            refine lv_goto (tgt := 29) hx hb dMo_write_56 (by decide) ?_
            exact ct5 best d2_3 l2_4 (bsP_n g1 c44) _ _ _ (hP.sub [2, 3, 4, 0, 1] rfl) (hD.sub [2, 3, 4, 0, 1] (by decide) rfl) hS (lv_sub hl [2, 1, 0] rfl)
          · have c44 := Nat.not_le.mp (fun h => c44 ((nI_leI (by have := hwg best; omega) (by have := hwg 4; omega)).mpr h))
            refine lv_iload_n hx hb dMo_write_47 rfl (lv_at hl 2 rfl) ?_
            refine lv_goto (tgt := 52) hx hb dMo_write_48 (by decide) ?_
            refine lv_istore_n (lv' := [(1, .int (nI 4)), (0, .ref qm), (2, .int (nI 4))]) hx hb dMo_write_52 rfl hl (by decide) rfl (fun ls hl => ?_)
            refine lv_iinc (v := nI 5) (lv' := [(2, .int (nI 5)), (1, .int (nI 4)), (0, .ref qm)]) hx hb dMo_write_53 hl (k := 2) rfl (by decide) (by decide) rfl (fun ls hl => ?_)
            refine lv_goto (tgt := 29) hx hb dMo_write_56 (by decide) ?_
            exact ct5 4 d2_3 l2_4 (bsP_y g1 c44) _ _ _ (hP.sub [2, 3, 4, 0, 1] rfl) (hD.sub [2, 3, 4, 0, 1] (by decide) rfl) hS (lv_sub hl [2, 1, 0] rfl)
      have ct3 : ∀ (best : Nat) (dd : Nat) (ll : Nat → Int64), (bsP (wGt n d (rRn xs n) (rLo xs n) (rHi xs n) (sLo xs n) (sHi xs n)) 3 best) → ∀ (H : Heap) (locs : List Loc) (ls : Array Slot), va_P D vwCl [(qm, .inr (9, [.int (nI 0), .int (nI n), .ref qmr, .int fm, .int (nI cm), .ref qmc, .int (nI szv), .ref qmb, .int (nI btv), .int (nI dd), .ref qml])), (qmr, .inl (cJ, 1024, .inr (.inl xs))), (qml, .inl (cJ, 1024, .inr (.inl ll))), (qmc, .inl (cJ, 1024, .inr (.inl ys))), (qmb, .inl (cI, 10400, .inl mm))] H → va_D A [(qm, .inr (9, [.int (nI 0), .int (nI n), .ref qmr, .int fm, .int (nI cm), .ref qmc, .int (nI szv), .ref qmb, .int (nI btv), .int (nI dd), .ref qml])), (qmr, .inl (cJ, 1024, .inr (.inl xs))), (qml, .inl (cJ, 1024, .inr (.inl ll))), (qmc, .inl (cJ, 1024, .inr (.inl ys))), (qmb, .inl (cI, 10400, .inl mm))] → va_S A s.heap H locs → lv_has ls 3 [(0, .ref qm), (1, .int (nI best)), (2, .int (nI 3))] → W p l e ({ frames := 6, cells := 0, slots := 0, locals := 175 }) s m ([.ref qm].toArray) below meth c H locs (0) (0) Q (F0 m 29 ls []) := by
        intro best dd ll g1 H locs ls hP hD hS hl
        refine lv_iload_n hx hb dMo_write_29 rfl (lv_at hl 2 rfl) ?_
        refine lv_iconst (v := nI 5) hx hb dMo_write_30 (by decide) ?_
        refine lv_icmp_ge (tgt := 59) hx hb dMo_write_31 (by decide) (fun c31 => ?_) (fun c31 => ?_)
        · have c31 : 5 ≤ 3 := (nI_leI (by omega) (by omega)).mp c31
          exact absurd c31 (by decide)
        · have c31 : ¬ 5 ≤ 3 := fun h => c31 ((nI_leI (by omega) (by omega)).mpr h)
          refine lv_aload_n hx hb dMo_write_34 rfl (lv_at hl 0 rfl) ?_
          refine lv_iload_n hx hb dMo_write_35 rfl (lv_at hl 2 rfl) ?_
          refine kc_i (wc := [(qm, .inr (9, [.int (nI 0), .int (nI n), .ref qmr, .int fm, .int (nI cm), .ref qmc, .int (nI szv), .ref qmb, .int (nI btv), .int (nI dd), .ref qml])), (qmr, .inl (cJ, 1024, .inr (.inl xs))), (qml, .inl (cJ, 1024, .inr (.inl ll)))]) (wr := [(qmc, .inl (cJ, 1024, .inr (.inl ys))), (qmb, .inl (cI, 10400, .inl mm))]) hP hD hS hA [0, 1, 2] [3, 4] rfl rfl (by decide) (by decide) (by decide) (fun hPc hDc => va_runV (As := [.int (nI 3)]) (rest := []) ⟨hx, hb, hml, hown, hts⟩ (m_weigh_3 l D cJ cB cI cF qm (nI 0) n qmr fm cm qmc szv qmb btv dd qml xs ll rs d _ (hn0) (hn) (hI)) (cwV 1 hts (wsG_k tw_643 (wsG_k tw_645 (wsG_k tp_w11 (wsG_k tw_10 (wsG_c tw_646))))) rfl rfl rfl (by decide +kernel) ⟨Nat.le_of_ble_eq_true rfl, Nat.le_of_ble_eq_true rfl⟩) ⟨cf_blind, va_recv hK hPc (ci := 9) (q0 := 0) rfl rfl, cf_pre hPc hK hDc hWd⟩ rfl rfl hl.1 rfl (lv_room (Nat.le_of_ble_eq_true rfl)) dMo_write_36 ⟨Nat.le_of_ble_eq_true rfl, Nat.le_of_ble_eq_true rfl⟩) (fun r u H locs hw hP hD hS => ?_)
          obtain ⟨d2_5, l2_6⟩ := u
          obtain ⟨rfl, -⟩ := hw
          have hP : va_P D vwCl [(qmc, .inl (cJ, 1024, .inr (.inl ys))), (qmb, .inl (cI, 10400, .inl mm)), (qm, .inr (9, [.int (nI 0), .int (nI n), .ref qmr, .int fm, .int (nI cm), .ref qmc, .int (nI szv), .ref qmb, .int (nI btv), .int (nI d2_5), .ref qml])), (qmr, .inl (cJ, 1024, .inr (.inl xs))), (qml, .inl (cJ, 1024, .inr (.inl l2_6)))] H := hP
          have hD : va_D A [(qmc, .inl (cJ, 1024, .inr (.inl ys))), (qmb, .inl (cI, 10400, .inl mm)), (qm, .inr (9, [.int (nI 0), .int (nI n), .ref qmr, .int fm, .int (nI cm), .ref qmc, .int (nI szv), .ref qmb, .int (nI btv), .int (nI d2_5), .ref qml])), (qmr, .inl (cJ, 1024, .inr (.inl xs))), (qml, .inl (cJ, 1024, .inr (.inl l2_6)))] := hD
          refine lv_aload_n hx hb dMo_write_39 rfl (lv_at hl 0 rfl) ?_
          refine lv_iload_n hx hb dMo_write_40 rfl (lv_at hl 1 rfl) ?_
          refine kc_i (wc := [(qm, .inr (9, [.int (nI 0), .int (nI n), .ref qmr, .int fm, .int (nI cm), .ref qmc, .int (nI szv), .ref qmb, .int (nI btv), .int (nI d2_5), .ref qml])), (qmr, .inl (cJ, 1024, .inr (.inl xs))), (qml, .inl (cJ, 1024, .inr (.inl l2_6)))]) (wr := [(qmc, .inl (cJ, 1024, .inr (.inl ys))), (qmb, .inl (cI, 10400, .inl mm))]) hP hD hS hA [2, 3, 4] [0, 1] rfl rfl (by decide) (by decide) (by decide) (fun hPc hDc => va_runV (As := [.int (nI best)]) (rest := [.int (nI (wGt n d (rRn xs n) (rLo xs n) (rHi xs n) (sLo xs n) (sHi xs n) 3))]) ⟨hx, hb, hml, hown, hts⟩ (m_weigh l D cJ cB cI cF qm (nI 0) n qmr fm cm qmc szv qmb btv d2_5 qml xs l2_6 rs d best _ (hn0) (hn) (hI) (by have := g1.1; omega)) (cwV 1 hts (wsG_k tw_643 (wsG_k tw_645 (wsG_k tp_w11 (wsG_k tw_10 (wsG_c tw_646))))) rfl rfl rfl (by decide +kernel) ⟨Nat.le_of_ble_eq_true rfl, Nat.le_of_ble_eq_true rfl⟩) ⟨cf_blind, va_recv hK hPc (ci := 9) (q0 := 0) rfl rfl, cf_pre hPc hK hDc hWd⟩ rfl rfl hl.1 rfl (lv_room (Nat.le_of_ble_eq_true rfl)) dMo_write_41 ⟨Nat.le_of_ble_eq_true rfl, Nat.le_of_ble_eq_true rfl⟩) (fun r u H locs hw hP hD hS => ?_)
          obtain ⟨d2_7, l2_8⟩ := u
          obtain ⟨rfl, -⟩ := hw
          have hP : va_P D vwCl [(qmc, .inl (cJ, 1024, .inr (.inl ys))), (qmb, .inl (cI, 10400, .inl mm)), (qm, .inr (9, [.int (nI 0), .int (nI n), .ref qmr, .int fm, .int (nI cm), .ref qmc, .int (nI szv), .ref qmb, .int (nI btv), .int (nI d2_7), .ref qml])), (qmr, .inl (cJ, 1024, .inr (.inl xs))), (qml, .inl (cJ, 1024, .inr (.inl l2_8)))] H := hP
          have hD : va_D A [(qmc, .inl (cJ, 1024, .inr (.inl ys))), (qmb, .inl (cI, 10400, .inl mm)), (qm, .inr (9, [.int (nI 0), .int (nI n), .ref qmr, .int fm, .int (nI cm), .ref qmc, .int (nI szv), .ref qmb, .int (nI btv), .int (nI d2_7), .ref qml])), (qmr, .inl (cJ, 1024, .inr (.inl xs))), (qml, .inl (cJ, 1024, .inr (.inl l2_8)))] := hD
          refine lv_icmp_ge (tgt := 51) hx hb dMo_write_44 (by decide) (fun c44 => ?_) (fun c44 => ?_)
          · have c44 := Nat.not_lt.mpr ((nI_leI (by have := hwg best; omega) (by have := hwg 3; omega)).mp c44)
            refine lv_iload_n hx hb dMo_write_51 rfl (lv_at hl 1 rfl) ?_
            refine lv_istore_n (lv' := [(1, .int (nI best)), (0, .ref qm), (2, .int (nI 3))]) hx hb dMo_write_52 rfl hl (by decide) rfl (fun ls hl => ?_)
            refine lv_iinc (v := nI 4) (lv' := [(2, .int (nI 4)), (1, .int (nI best)), (0, .ref qm)]) hx hb dMo_write_53 hl (k := 2) rfl (by decide) (by decide) rfl (fun ls hl => ?_)
            refine lv_goto (tgt := 29) hx hb dMo_write_56 (by decide) ?_
            exact ct4 best d2_7 l2_8 (bsP_n g1 c44) _ _ _ (hP.sub [2, 3, 4, 0, 1] rfl) (hD.sub [2, 3, 4, 0, 1] (by decide) rfl) hS (lv_sub hl [2, 1, 0] rfl)
          · have c44 := Nat.not_le.mp (fun h => c44 ((nI_leI (by have := hwg best; omega) (by have := hwg 3; omega)).mpr h))
            refine lv_iload_n hx hb dMo_write_47 rfl (lv_at hl 2 rfl) ?_
            refine lv_goto (tgt := 52) hx hb dMo_write_48 (by decide) ?_
            refine lv_istore_n (lv' := [(1, .int (nI 3)), (0, .ref qm), (2, .int (nI 3))]) hx hb dMo_write_52 rfl hl (by decide) rfl (fun ls hl => ?_)
            refine lv_iinc (v := nI 4) (lv' := [(2, .int (nI 4)), (1, .int (nI 3)), (0, .ref qm)]) hx hb dMo_write_53 hl (k := 2) rfl (by decide) (by decide) rfl (fun ls hl => ?_)
            refine lv_goto (tgt := 29) hx hb dMo_write_56 (by decide) ?_
            exact ct4 3 d2_7 l2_8 (bsP_y g1 c44) _ _ _ (hP.sub [2, 3, 4, 0, 1] rfl) (hD.sub [2, 3, 4, 0, 1] (by decide) rfl) hS (lv_sub hl [2, 1, 0] rfl)
      have ct2 : ∀ (best : Nat) (dd : Nat) (ll : Nat → Int64), (bsP (wGt n d (rRn xs n) (rLo xs n) (rHi xs n) (sLo xs n) (sHi xs n)) 2 best) → ∀ (H : Heap) (locs : List Loc) (ls : Array Slot), va_P D vwCl [(qm, .inr (9, [.int (nI 0), .int (nI n), .ref qmr, .int fm, .int (nI cm), .ref qmc, .int (nI szv), .ref qmb, .int (nI btv), .int (nI dd), .ref qml])), (qmr, .inl (cJ, 1024, .inr (.inl xs))), (qml, .inl (cJ, 1024, .inr (.inl ll))), (qmc, .inl (cJ, 1024, .inr (.inl ys))), (qmb, .inl (cI, 10400, .inl mm))] H → va_D A [(qm, .inr (9, [.int (nI 0), .int (nI n), .ref qmr, .int fm, .int (nI cm), .ref qmc, .int (nI szv), .ref qmb, .int (nI btv), .int (nI dd), .ref qml])), (qmr, .inl (cJ, 1024, .inr (.inl xs))), (qml, .inl (cJ, 1024, .inr (.inl ll))), (qmc, .inl (cJ, 1024, .inr (.inl ys))), (qmb, .inl (cI, 10400, .inl mm))] → va_S A s.heap H locs → lv_has ls 3 [(0, .ref qm), (1, .int (nI best)), (2, .int (nI 2))] → W p l e ({ frames := 6, cells := 0, slots := 0, locals := 175 }) s m ([.ref qm].toArray) below meth c H locs (0) (0) Q (F0 m 29 ls []) := by
        intro best dd ll g1 H locs ls hP hD hS hl
        refine lv_iload_n hx hb dMo_write_29 rfl (lv_at hl 2 rfl) ?_
        refine lv_iconst (v := nI 5) hx hb dMo_write_30 (by decide) ?_
        refine lv_icmp_ge (tgt := 59) hx hb dMo_write_31 (by decide) (fun c31 => ?_) (fun c31 => ?_)
        · have c31 : 5 ≤ 2 := (nI_leI (by omega) (by omega)).mp c31
          exact absurd c31 (by decide)
        · have c31 : ¬ 5 ≤ 2 := fun h => c31 ((nI_leI (by omega) (by omega)).mpr h)
          refine lv_aload_n hx hb dMo_write_34 rfl (lv_at hl 0 rfl) ?_
          refine lv_iload_n hx hb dMo_write_35 rfl (lv_at hl 2 rfl) ?_
          refine kc_i (wc := [(qm, .inr (9, [.int (nI 0), .int (nI n), .ref qmr, .int fm, .int (nI cm), .ref qmc, .int (nI szv), .ref qmb, .int (nI btv), .int (nI dd), .ref qml])), (qmr, .inl (cJ, 1024, .inr (.inl xs))), (qml, .inl (cJ, 1024, .inr (.inl ll)))]) (wr := [(qmc, .inl (cJ, 1024, .inr (.inl ys))), (qmb, .inl (cI, 10400, .inl mm))]) hP hD hS hA [0, 1, 2] [3, 4] rfl rfl (by decide) (by decide) (by decide) (fun hPc hDc => va_runV (As := [.int (nI 2)]) (rest := []) ⟨hx, hb, hml, hown, hts⟩ (m_weigh_2 l D cJ cB cI cF qm (nI 0) n qmr fm cm qmc szv qmb btv dd qml xs ll rs d _ (hn0) (hn) (hI)) (cwV 1 hts (wsG_k tw_643 (wsG_k tw_645 (wsG_k tp_w11 (wsG_k tw_10 (wsG_c tw_646))))) rfl rfl rfl (by decide +kernel) ⟨Nat.le_of_ble_eq_true rfl, Nat.le_of_ble_eq_true rfl⟩) ⟨cf_blind, va_recv hK hPc (ci := 9) (q0 := 0) rfl rfl, cf_pre hPc hK hDc hWd⟩ rfl rfl hl.1 rfl (lv_room (Nat.le_of_ble_eq_true rfl)) dMo_write_36 ⟨Nat.le_of_ble_eq_true rfl, Nat.le_of_ble_eq_true rfl⟩) (fun r u H locs hw hP hD hS => ?_)
          obtain ⟨d2_9, l2_10⟩ := u
          obtain ⟨rfl, -⟩ := hw
          have hP : va_P D vwCl [(qmc, .inl (cJ, 1024, .inr (.inl ys))), (qmb, .inl (cI, 10400, .inl mm)), (qm, .inr (9, [.int (nI 0), .int (nI n), .ref qmr, .int fm, .int (nI cm), .ref qmc, .int (nI szv), .ref qmb, .int (nI btv), .int (nI d2_9), .ref qml])), (qmr, .inl (cJ, 1024, .inr (.inl xs))), (qml, .inl (cJ, 1024, .inr (.inl l2_10)))] H := hP
          have hD : va_D A [(qmc, .inl (cJ, 1024, .inr (.inl ys))), (qmb, .inl (cI, 10400, .inl mm)), (qm, .inr (9, [.int (nI 0), .int (nI n), .ref qmr, .int fm, .int (nI cm), .ref qmc, .int (nI szv), .ref qmb, .int (nI btv), .int (nI d2_9), .ref qml])), (qmr, .inl (cJ, 1024, .inr (.inl xs))), (qml, .inl (cJ, 1024, .inr (.inl l2_10)))] := hD
          refine lv_aload_n hx hb dMo_write_39 rfl (lv_at hl 0 rfl) ?_
          refine lv_iload_n hx hb dMo_write_40 rfl (lv_at hl 1 rfl) ?_
          refine kc_i (wc := [(qm, .inr (9, [.int (nI 0), .int (nI n), .ref qmr, .int fm, .int (nI cm), .ref qmc, .int (nI szv), .ref qmb, .int (nI btv), .int (nI d2_9), .ref qml])), (qmr, .inl (cJ, 1024, .inr (.inl xs))), (qml, .inl (cJ, 1024, .inr (.inl l2_10)))]) (wr := [(qmc, .inl (cJ, 1024, .inr (.inl ys))), (qmb, .inl (cI, 10400, .inl mm))]) hP hD hS hA [2, 3, 4] [0, 1] rfl rfl (by decide) (by decide) (by decide) (fun hPc hDc => va_runV (As := [.int (nI best)]) (rest := [.int (nI (wGt n d (rRn xs n) (rLo xs n) (rHi xs n) (sLo xs n) (sHi xs n) 2))]) ⟨hx, hb, hml, hown, hts⟩ (m_weigh l D cJ cB cI cF qm (nI 0) n qmr fm cm qmc szv qmb btv d2_9 qml xs l2_10 rs d best _ (hn0) (hn) (hI) (by have := g1.1; omega)) (cwV 1 hts (wsG_k tw_643 (wsG_k tw_645 (wsG_k tp_w11 (wsG_k tw_10 (wsG_c tw_646))))) rfl rfl rfl (by decide +kernel) ⟨Nat.le_of_ble_eq_true rfl, Nat.le_of_ble_eq_true rfl⟩) ⟨cf_blind, va_recv hK hPc (ci := 9) (q0 := 0) rfl rfl, cf_pre hPc hK hDc hWd⟩ rfl rfl hl.1 rfl (lv_room (Nat.le_of_ble_eq_true rfl)) dMo_write_41 ⟨Nat.le_of_ble_eq_true rfl, Nat.le_of_ble_eq_true rfl⟩) (fun r u H locs hw hP hD hS => ?_)
          obtain ⟨d2_11, l2_12⟩ := u
          obtain ⟨rfl, -⟩ := hw
          have hP : va_P D vwCl [(qmc, .inl (cJ, 1024, .inr (.inl ys))), (qmb, .inl (cI, 10400, .inl mm)), (qm, .inr (9, [.int (nI 0), .int (nI n), .ref qmr, .int fm, .int (nI cm), .ref qmc, .int (nI szv), .ref qmb, .int (nI btv), .int (nI d2_11), .ref qml])), (qmr, .inl (cJ, 1024, .inr (.inl xs))), (qml, .inl (cJ, 1024, .inr (.inl l2_12)))] H := hP
          have hD : va_D A [(qmc, .inl (cJ, 1024, .inr (.inl ys))), (qmb, .inl (cI, 10400, .inl mm)), (qm, .inr (9, [.int (nI 0), .int (nI n), .ref qmr, .int fm, .int (nI cm), .ref qmc, .int (nI szv), .ref qmb, .int (nI btv), .int (nI d2_11), .ref qml])), (qmr, .inl (cJ, 1024, .inr (.inl xs))), (qml, .inl (cJ, 1024, .inr (.inl l2_12)))] := hD
          refine lv_icmp_ge (tgt := 51) hx hb dMo_write_44 (by decide) (fun c44 => ?_) (fun c44 => ?_)
          · have c44 := Nat.not_lt.mpr ((nI_leI (by have := hwg best; omega) (by have := hwg 2; omega)).mp c44)
            refine lv_iload_n hx hb dMo_write_51 rfl (lv_at hl 1 rfl) ?_
            refine lv_istore_n (lv' := [(1, .int (nI best)), (0, .ref qm), (2, .int (nI 2))]) hx hb dMo_write_52 rfl hl (by decide) rfl (fun ls hl => ?_)
            refine lv_iinc (v := nI 3) (lv' := [(2, .int (nI 3)), (1, .int (nI best)), (0, .ref qm)]) hx hb dMo_write_53 hl (k := 2) rfl (by decide) (by decide) rfl (fun ls hl => ?_)
            refine lv_goto (tgt := 29) hx hb dMo_write_56 (by decide) ?_
            exact ct3 best d2_11 l2_12 (bsP_n g1 c44) _ _ _ (hP.sub [2, 3, 4, 0, 1] rfl) (hD.sub [2, 3, 4, 0, 1] (by decide) rfl) hS (lv_sub hl [2, 1, 0] rfl)
          · have c44 := Nat.not_le.mp (fun h => c44 ((nI_leI (by have := hwg best; omega) (by have := hwg 2; omega)).mpr h))
            refine lv_iload_n hx hb dMo_write_47 rfl (lv_at hl 2 rfl) ?_
            refine lv_goto (tgt := 52) hx hb dMo_write_48 (by decide) ?_
            refine lv_istore_n (lv' := [(1, .int (nI 2)), (0, .ref qm), (2, .int (nI 2))]) hx hb dMo_write_52 rfl hl (by decide) rfl (fun ls hl => ?_)
            refine lv_iinc (v := nI 3) (lv' := [(2, .int (nI 3)), (1, .int (nI 2)), (0, .ref qm)]) hx hb dMo_write_53 hl (k := 2) rfl (by decide) (by decide) rfl (fun ls hl => ?_)
            refine lv_goto (tgt := 29) hx hb dMo_write_56 (by decide) ?_
            exact ct3 2 d2_11 l2_12 (bsP_y g1 c44) _ _ _ (hP.sub [2, 3, 4, 0, 1] rfl) (hD.sub [2, 3, 4, 0, 1] (by decide) rfl) hS (lv_sub hl [2, 1, 0] rfl)
      have ct1 : ∀ (best : Nat) (dd : Nat) (ll : Nat → Int64), (bsP (wGt n d (rRn xs n) (rLo xs n) (rHi xs n) (sLo xs n) (sHi xs n)) 1 best) → ∀ (H : Heap) (locs : List Loc) (ls : Array Slot), va_P D vwCl [(qm, .inr (9, [.int (nI 0), .int (nI n), .ref qmr, .int fm, .int (nI cm), .ref qmc, .int (nI szv), .ref qmb, .int (nI btv), .int (nI dd), .ref qml])), (qmr, .inl (cJ, 1024, .inr (.inl xs))), (qml, .inl (cJ, 1024, .inr (.inl ll))), (qmc, .inl (cJ, 1024, .inr (.inl ys))), (qmb, .inl (cI, 10400, .inl mm))] H → va_D A [(qm, .inr (9, [.int (nI 0), .int (nI n), .ref qmr, .int fm, .int (nI cm), .ref qmc, .int (nI szv), .ref qmb, .int (nI btv), .int (nI dd), .ref qml])), (qmr, .inl (cJ, 1024, .inr (.inl xs))), (qml, .inl (cJ, 1024, .inr (.inl ll))), (qmc, .inl (cJ, 1024, .inr (.inl ys))), (qmb, .inl (cI, 10400, .inl mm))] → va_S A s.heap H locs → lv_has ls 3 [(0, .ref qm), (1, .int (nI best)), (2, .int (nI 1))] → W p l e ({ frames := 6, cells := 0, slots := 0, locals := 175 }) s m ([.ref qm].toArray) below meth c H locs (0) (0) Q (F0 m 29 ls []) := by
        intro best dd ll g1 H locs ls hP hD hS hl
        refine lv_iload_n hx hb dMo_write_29 rfl (lv_at hl 2 rfl) ?_
        refine lv_iconst (v := nI 5) hx hb dMo_write_30 (by decide) ?_
        refine lv_icmp_ge (tgt := 59) hx hb dMo_write_31 (by decide) (fun c31 => ?_) (fun c31 => ?_)
        · have c31 : 5 ≤ 1 := (nI_leI (by omega) (by omega)).mp c31
          exact absurd c31 (by decide)
        · have c31 : ¬ 5 ≤ 1 := fun h => c31 ((nI_leI (by omega) (by omega)).mpr h)
          refine lv_aload_n hx hb dMo_write_34 rfl (lv_at hl 0 rfl) ?_
          refine lv_iload_n hx hb dMo_write_35 rfl (lv_at hl 2 rfl) ?_
          refine kc_i (wc := [(qm, .inr (9, [.int (nI 0), .int (nI n), .ref qmr, .int fm, .int (nI cm), .ref qmc, .int (nI szv), .ref qmb, .int (nI btv), .int (nI dd), .ref qml])), (qmr, .inl (cJ, 1024, .inr (.inl xs))), (qml, .inl (cJ, 1024, .inr (.inl ll)))]) (wr := [(qmc, .inl (cJ, 1024, .inr (.inl ys))), (qmb, .inl (cI, 10400, .inl mm))]) hP hD hS hA [0, 1, 2] [3, 4] rfl rfl (by decide) (by decide) (by decide) (fun hPc hDc => va_runV (As := [.int (nI 1)]) (rest := []) ⟨hx, hb, hml, hown, hts⟩ (m_weigh_1 l D cJ cB cI cF qm (nI 0) n qmr fm cm qmc szv qmb btv dd qml xs ll rs d _ (hn0) (hn) (hI)) (cwV 1 hts (wsG_k tw_643 (wsG_k tw_645 (wsG_k tp_w11 (wsG_k tw_10 (wsG_c tw_646))))) rfl rfl rfl (by decide +kernel) ⟨Nat.le_of_ble_eq_true rfl, Nat.le_of_ble_eq_true rfl⟩) ⟨cf_blind, va_recv hK hPc (ci := 9) (q0 := 0) rfl rfl, cf_pre hPc hK hDc hWd⟩ rfl rfl hl.1 rfl (lv_room (Nat.le_of_ble_eq_true rfl)) dMo_write_36 ⟨Nat.le_of_ble_eq_true rfl, Nat.le_of_ble_eq_true rfl⟩) (fun r u H locs hw hP hD hS => ?_)
          obtain ⟨d2_13, l2_14⟩ := u
          obtain ⟨rfl, -⟩ := hw
          have hP : va_P D vwCl [(qmc, .inl (cJ, 1024, .inr (.inl ys))), (qmb, .inl (cI, 10400, .inl mm)), (qm, .inr (9, [.int (nI 0), .int (nI n), .ref qmr, .int fm, .int (nI cm), .ref qmc, .int (nI szv), .ref qmb, .int (nI btv), .int (nI d2_13), .ref qml])), (qmr, .inl (cJ, 1024, .inr (.inl xs))), (qml, .inl (cJ, 1024, .inr (.inl l2_14)))] H := hP
          have hD : va_D A [(qmc, .inl (cJ, 1024, .inr (.inl ys))), (qmb, .inl (cI, 10400, .inl mm)), (qm, .inr (9, [.int (nI 0), .int (nI n), .ref qmr, .int fm, .int (nI cm), .ref qmc, .int (nI szv), .ref qmb, .int (nI btv), .int (nI d2_13), .ref qml])), (qmr, .inl (cJ, 1024, .inr (.inl xs))), (qml, .inl (cJ, 1024, .inr (.inl l2_14)))] := hD
          refine lv_aload_n hx hb dMo_write_39 rfl (lv_at hl 0 rfl) ?_
          refine lv_iload_n hx hb dMo_write_40 rfl (lv_at hl 1 rfl) ?_
          refine kc_i (wc := [(qm, .inr (9, [.int (nI 0), .int (nI n), .ref qmr, .int fm, .int (nI cm), .ref qmc, .int (nI szv), .ref qmb, .int (nI btv), .int (nI d2_13), .ref qml])), (qmr, .inl (cJ, 1024, .inr (.inl xs))), (qml, .inl (cJ, 1024, .inr (.inl l2_14)))]) (wr := [(qmc, .inl (cJ, 1024, .inr (.inl ys))), (qmb, .inl (cI, 10400, .inl mm))]) hP hD hS hA [2, 3, 4] [0, 1] rfl rfl (by decide) (by decide) (by decide) (fun hPc hDc => va_runV (As := [.int (nI best)]) (rest := [.int (nI (wGt n d (rRn xs n) (rLo xs n) (rHi xs n) (sLo xs n) (sHi xs n) 1))]) ⟨hx, hb, hml, hown, hts⟩ (m_weigh l D cJ cB cI cF qm (nI 0) n qmr fm cm qmc szv qmb btv d2_13 qml xs l2_14 rs d best _ (hn0) (hn) (hI) (by have := g1.1; omega)) (cwV 1 hts (wsG_k tw_643 (wsG_k tw_645 (wsG_k tp_w11 (wsG_k tw_10 (wsG_c tw_646))))) rfl rfl rfl (by decide +kernel) ⟨Nat.le_of_ble_eq_true rfl, Nat.le_of_ble_eq_true rfl⟩) ⟨cf_blind, va_recv hK hPc (ci := 9) (q0 := 0) rfl rfl, cf_pre hPc hK hDc hWd⟩ rfl rfl hl.1 rfl (lv_room (Nat.le_of_ble_eq_true rfl)) dMo_write_41 ⟨Nat.le_of_ble_eq_true rfl, Nat.le_of_ble_eq_true rfl⟩) (fun r u H locs hw hP hD hS => ?_)
          obtain ⟨d2_15, l2_16⟩ := u
          obtain ⟨rfl, -⟩ := hw
          have hP : va_P D vwCl [(qmc, .inl (cJ, 1024, .inr (.inl ys))), (qmb, .inl (cI, 10400, .inl mm)), (qm, .inr (9, [.int (nI 0), .int (nI n), .ref qmr, .int fm, .int (nI cm), .ref qmc, .int (nI szv), .ref qmb, .int (nI btv), .int (nI d2_15), .ref qml])), (qmr, .inl (cJ, 1024, .inr (.inl xs))), (qml, .inl (cJ, 1024, .inr (.inl l2_16)))] H := hP
          have hD : va_D A [(qmc, .inl (cJ, 1024, .inr (.inl ys))), (qmb, .inl (cI, 10400, .inl mm)), (qm, .inr (9, [.int (nI 0), .int (nI n), .ref qmr, .int fm, .int (nI cm), .ref qmc, .int (nI szv), .ref qmb, .int (nI btv), .int (nI d2_15), .ref qml])), (qmr, .inl (cJ, 1024, .inr (.inl xs))), (qml, .inl (cJ, 1024, .inr (.inl l2_16)))] := hD
          refine lv_icmp_ge (tgt := 51) hx hb dMo_write_44 (by decide) (fun c44 => ?_) (fun c44 => ?_)
          · have c44 := Nat.not_lt.mpr ((nI_leI (by have := hwg best; omega) (by have := hwg 1; omega)).mp c44)
            refine lv_iload_n hx hb dMo_write_51 rfl (lv_at hl 1 rfl) ?_
            refine lv_istore_n (lv' := [(1, .int (nI best)), (0, .ref qm), (2, .int (nI 1))]) hx hb dMo_write_52 rfl hl (by decide) rfl (fun ls hl => ?_)
            refine lv_iinc (v := nI 2) (lv' := [(2, .int (nI 2)), (1, .int (nI best)), (0, .ref qm)]) hx hb dMo_write_53 hl (k := 2) rfl (by decide) (by decide) rfl (fun ls hl => ?_)
            refine lv_goto (tgt := 29) hx hb dMo_write_56 (by decide) ?_
            exact ct2 best d2_15 l2_16 (bsP_n g1 c44) _ _ _ (hP.sub [2, 3, 4, 0, 1] rfl) (hD.sub [2, 3, 4, 0, 1] (by decide) rfl) hS (lv_sub hl [2, 1, 0] rfl)
          · have c44 := Nat.not_le.mp (fun h => c44 ((nI_leI (by have := hwg best; omega) (by have := hwg 1; omega)).mpr h))
            refine lv_iload_n hx hb dMo_write_47 rfl (lv_at hl 2 rfl) ?_
            refine lv_goto (tgt := 52) hx hb dMo_write_48 (by decide) ?_
            refine lv_istore_n (lv' := [(1, .int (nI 1)), (0, .ref qm), (2, .int (nI 1))]) hx hb dMo_write_52 rfl hl (by decide) rfl (fun ls hl => ?_)
            refine lv_iinc (v := nI 2) (lv' := [(2, .int (nI 2)), (1, .int (nI 1)), (0, .ref qm)]) hx hb dMo_write_53 hl (k := 2) rfl (by decide) (by decide) rfl (fun ls hl => ?_)
            refine lv_goto (tgt := 29) hx hb dMo_write_56 (by decide) ?_
            exact ct2 1 d2_15 l2_16 (bsP_y g1 c44) _ _ _ (hP.sub [2, 3, 4, 0, 1] rfl) (hD.sub [2, 3, 4, 0, 1] (by decide) rfl) hS (lv_sub hl [2, 1, 0] rfl)
      refine lv_iconst (v := nI 1) hx hb dMo_write_27 (by decide) ?_
      refine lv_istore_n (lv' := [(2, .int (nI 1)), (1, .int (nI 0)), (0, .ref qm)]) hx hb dMo_write_28 rfl hl (by decide) rfl (fun ls hl => ?_)
      exact ct1 0 dm lm (bsP_1 _) _ _ _ (hP.sub [0, 1, 2, 3, 4] rfl) (hD.sub [0, 1, 2, 3, 4] (by decide) rfl) hS (lv_sub hl [2, 1, 0] rfl)
    · have c20 : ¬ 0 ≤ 0 := fun h => c20 ((nI_leI (b := 0) (by omega) (by omega)).mpr h)
      exact absurd c20 (by decide)
  · have c5 : n = 0 := (nI_eq (b := 0) (by omega) (by omega)).mp c5
    exact absurd c5 (by omega)

