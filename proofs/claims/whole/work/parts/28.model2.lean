set_option maxHeartbeats 4000000 in
set_option maxRecDepth 100000 in
theorem m_init (l : Launch) (D : va_G) (cJ cB cI cF : ClassId) (qm : Nat) (sz : Nat) : Met l yMo_init (Cond.code yMo_init cMo_init 1 none :: wsG) ({ frames := 1, cells := 4, slots := 13472, locals := 12 }) (va_Pc [.ref qm] (cfPre D (cfT cJ cB cI cF) [(qm, .inr (9, [.int (nI 0), .int (nI 0), .null, .int (nI 0), .int (nI 0), .null, .int (nI 0), .null, .int (nI 0), .int (nI 0), .null]))] sz)) (va_Qv (fun (u : Nat × Nat × Nat × Nat) => True) (fun u t => cfPost D ((fun (u : Nat × Nat × Nat × Nat) => [(qm, .inr (9, [.int (nI 0), .int (nI 0), .ref u.1, .int (-1), .int (nI 0), .ref u.2.1, .int (nI 0), .ref u.2.2.1, .int (nI 0), .int (nI 0), .ref u.2.2.2])), (u.1, .inl (cJ, 1024, .inr (.inl (fun _ => 0)))), (u.2.1, .inl (cJ, 1024, .inr (.inl (fun _ => 0)))), (u.2.2.1, .inl (cI, 10400, .inl (fun _ => 0))), (u.2.2.2, .inl (cJ, 1024, .inr (.inl (fun _ => 0))))]) u) (va_A [(qm, .inr (9, [.int (nI 0), .int (nI 0), .null, .int (nI 0), .int (nI 0), .null, .int (nI 0), .null, .int (nI 0), .int (nI 0), .null]))] sz) t) (va_A [(qm, .inr (9, [.int (nI 0), .int (nI 0), .null, .int (nI 0), .int (nI 0), .null, .int (nI 0), .null, .int (nI 0), .int (nI 0), .null]))] sz)) 4 13472 (va_A [(qm, .inr (9, [.int (nI 0), .int (nI 0), .null, .int (nI 0), .int (nI 0), .null, .int (nI 0), .null, .int (nI 0), .int (nI 0), .null]))] sz) := by
  refine met_v (cc := cMo_init) (maxL := 1) (S := Nat × Nat × Nat × Nat) (D := D) (wO := fun (u : Nat × Nat × Nat × Nat) => [(qm, .inr (9, [.int (nI 0), .int (nI 0), .ref u.1, .int (-1), .int (nI 0), .ref u.2.1, .int (nI 0), .ref u.2.2.1, .int (nI 0), .int (nI 0), .ref u.2.2.2])), (u.1, .inl (cJ, 1024, .inr (.inl (fun _ => 0)))), (u.2.1, .inl (cJ, 1024, .inr (.inl (fun _ => 0)))), (u.2.2.1, .inl (cI, 10400, .inl (fun _ => 0))), (u.2.2.2, .inl (cJ, 1024, .inr (.inl (fun _ => 0))))]) (by decide) (Nat.le_of_ble_eq_true rfl) ?_
  intro p e s m below meth c hx hb hml hown hts hlocks hin hWd A hA hsz hP hK hD hS Q hret ls hl
  have hown : s.vm.findClass "ColumnFormsModel" = some m.cls := hown
  have hl : lv_has ls 1 [(0, .ref qm)] := hl
  have hP : va_P D vwCl [(qm, .inr (9, [.int (nI 0), .int (nI 0), .null, .int (nI 0), .int (nI 0), .null, .int (nI 0), .null, .int (nI 0), .int (nI 0), .null]))] s.heap := hP
  refine lv_aload_n hx hb dMo_init_0 rfl (lv_at hl 0 rfl) ?_
  refine W.objInit hx hb hown (hts _ tw_588) (hts _ tw_28) (hts _ tw_obj) rfl (hl.1.trans hml.symm) rfl dMo_init_1 (Nat.le_of_ble_eq_true rfl) (Nat.le_of_ble_eq_true rfl) ?_
  refine W.eq (g2 := F0 m 4 ls []) rfl ?_
  refine lv_aload_n hx hb dMo_init_4 rfl (lv_at hl 0 rfl) ?_
  refine lv_sipush (v := nI 1024) hx hb dMo_init_5 (by decide) ?_
  refine nw_long hx hb (hts _ tw_76) hK hP hD hS hA 0 rfl 1024 (by omega) (Nat.le_of_ble_eq_true rfl) (Nat.le_of_ble_eq_true rfl) dMo_init_8 (fun q_1 H hP hD hS => ?_)
  have hP : va_P D vwCl [(qm, .inr (9, [.int (nI 0), .int (nI 0), .null, .int (nI 0), .int (nI 0), .null, .int (nI 0), .null, .int (nI 0), .int (nI 0), .null])), (q_1, .inl (cJ, 1024, .inr (.inl (fun _ => 0))))] H := hP
  have hD : va_D A [(qm, .inr (9, [.int (nI 0), .int (nI 0), .null, .int (nI 0), .int (nI 0), .null, .int (nI 0), .null, .int (nI 0), .int (nI 0), .null])), (q_1, .inl (cJ, 1024, .inr (.inl (fun _ => 0))))] := hD
  refine va_putF (D := D) (ci := 9) (v := .ref q_1) (ty := .array .long) (C := "ColumnFormsModel") (T := TMo) (N := 11) hx hb hts inMo tyMo tyMo_ok nmMo hown hK hP hD hS 0 rfl rfl 2 (by decide) (hts _ tw_591) (fun _ h9 => h9) rfl hin rfl (by decide +kernel) rfl rfl (Nat.le_of_ble_eq_true rfl) dMo_init_10 (fun H locs hP hD hS => ?_)
  have hP : va_P D vwCl [(qm, .inr (9, [.int (nI 0), .int (nI 0), .ref q_1, .int (nI 0), .int (nI 0), .null, .int (nI 0), .null, .int (nI 0), .int (nI 0), .null])), (q_1, .inl (cJ, 1024, .inr (.inl (fun _ => 0))))] H := hP
  have hD : va_D A [(qm, .inr (9, [.int (nI 0), .int (nI 0), .ref q_1, .int (nI 0), .int (nI 0), .null, .int (nI 0), .null, .int (nI 0), .int (nI 0), .null])), (q_1, .inl (cJ, 1024, .inr (.inl (fun _ => 0))))] := hD
  refine lv_aload_n hx hb dMo_init_13 rfl (lv_at hl 0 rfl) ?_
  refine lv_iconst (v := (-1)) hx hb dMo_init_14 (by decide) ?_
  refine va_put (D := D) (ci := 9) (v := .int (-1)) (ty := .int) (C := "ColumnFormsModel") (T := TMo) (N := 11) hx hb hts inMo tyMo tyMo_ok nmMo hown hK hP hD hS 0 rfl rfl 3 (by decide) (hts _ tw_592) (fun _ h9 => h9) rfl (by decide +kernel) rfl rfl (Nat.le_of_ble_eq_true rfl) dMo_init_15 (fun H locs hP hD hS => ?_)
  have hP : va_P D vwCl [(qm, .inr (9, [.int (nI 0), .int (nI 0), .ref q_1, .int (-1), .int (nI 0), .null, .int (nI 0), .null, .int (nI 0), .int (nI 0), .null])), (q_1, .inl (cJ, 1024, .inr (.inl (fun _ => 0))))] H := hP
  have hD : va_D A [(qm, .inr (9, [.int (nI 0), .int (nI 0), .ref q_1, .int (-1), .int (nI 0), .null, .int (nI 0), .null, .int (nI 0), .int (nI 0), .null])), (q_1, .inl (cJ, 1024, .inr (.inl (fun _ => 0))))] := hD
  refine lv_aload_n hx hb dMo_init_18 rfl (lv_at hl 0 rfl) ?_
  refine lv_sipush (v := nI 1024) hx hb dMo_init_19 (by decide) ?_
  refine nw_long hx hb (hts _ tw_76) hK hP hD hS hA 0 rfl 1024 (by omega) (Nat.le_of_ble_eq_true rfl) (Nat.le_of_ble_eq_true rfl) dMo_init_22 (fun q_2 H hP hD hS => ?_)
  have hP : va_P D vwCl [(qm, .inr (9, [.int (nI 0), .int (nI 0), .ref q_1, .int (-1), .int (nI 0), .null, .int (nI 0), .null, .int (nI 0), .int (nI 0), .null])), (q_1, .inl (cJ, 1024, .inr (.inl (fun _ => 0)))), (q_2, .inl (cJ, 1024, .inr (.inl (fun _ => 0))))] H := hP
  have hD : va_D A [(qm, .inr (9, [.int (nI 0), .int (nI 0), .ref q_1, .int (-1), .int (nI 0), .null, .int (nI 0), .null, .int (nI 0), .int (nI 0), .null])), (q_1, .inl (cJ, 1024, .inr (.inl (fun _ => 0)))), (q_2, .inl (cJ, 1024, .inr (.inl (fun _ => 0))))] := hD
  refine va_putF (D := D) (ci := 9) (v := .ref q_2) (ty := .array .long) (C := "ColumnFormsModel") (T := TMo) (N := 11) hx hb hts inMo tyMo tyMo_ok nmMo hown hK hP hD hS 0 rfl rfl 5 (by decide) (hts _ tw_594) (fun _ h9 => h9) rfl hin rfl (by decide +kernel) rfl rfl (Nat.le_of_ble_eq_true rfl) dMo_init_24 (fun H locs hP hD hS => ?_)
  have hP : va_P D vwCl [(qm, .inr (9, [.int (nI 0), .int (nI 0), .ref q_1, .int (-1), .int (nI 0), .ref q_2, .int (nI 0), .null, .int (nI 0), .int (nI 0), .null])), (q_1, .inl (cJ, 1024, .inr (.inl (fun _ => 0)))), (q_2, .inl (cJ, 1024, .inr (.inl (fun _ => 0))))] H := hP
  have hD : va_D A [(qm, .inr (9, [.int (nI 0), .int (nI 0), .ref q_1, .int (-1), .int (nI 0), .ref q_2, .int (nI 0), .null, .int (nI 0), .int (nI 0), .null])), (q_1, .inl (cJ, 1024, .inr (.inl (fun _ => 0)))), (q_2, .inl (cJ, 1024, .inr (.inl (fun _ => 0))))] := hD
  refine lv_aload_n hx hb dMo_init_27 rfl (lv_at hl 0 rfl) ?_
  refine lv_sipush (v := nI 10400) hx hb dMo_init_28 (by decide) ?_
  refine nw_int hx hb (hts _ tw_120) hK hP hD hS hA 2 rfl 10400 (by omega) (Nat.le_of_ble_eq_true rfl) (Nat.le_of_ble_eq_true rfl) dMo_init_31 (fun q_3 H hP hD hS => ?_)
  have hP : va_P D vwCl [(qm, .inr (9, [.int (nI 0), .int (nI 0), .ref q_1, .int (-1), .int (nI 0), .ref q_2, .int (nI 0), .null, .int (nI 0), .int (nI 0), .null])), (q_1, .inl (cJ, 1024, .inr (.inl (fun _ => 0)))), (q_2, .inl (cJ, 1024, .inr (.inl (fun _ => 0)))), (q_3, .inl (cI, 10400, .inl (fun _ => 0)))] H := hP
  have hD : va_D A [(qm, .inr (9, [.int (nI 0), .int (nI 0), .ref q_1, .int (-1), .int (nI 0), .ref q_2, .int (nI 0), .null, .int (nI 0), .int (nI 0), .null])), (q_1, .inl (cJ, 1024, .inr (.inl (fun _ => 0)))), (q_2, .inl (cJ, 1024, .inr (.inl (fun _ => 0)))), (q_3, .inl (cI, 10400, .inl (fun _ => 0)))] := hD
  refine va_putF (D := D) (ci := 9) (v := .ref q_3) (ty := .array .int) (C := "ColumnFormsModel") (T := TMo) (N := 11) hx hb hts inMo tyMo tyMo_ok nmMo hown hK hP hD hS 0 rfl rfl 7 (by decide) (hts _ tw_596) (fun _ h9 => h9) rfl hin rfl (by decide +kernel) rfl rfl (Nat.le_of_ble_eq_true rfl) dMo_init_33 (fun H locs hP hD hS => ?_)
  have hP : va_P D vwCl [(qm, .inr (9, [.int (nI 0), .int (nI 0), .ref q_1, .int (-1), .int (nI 0), .ref q_2, .int (nI 0), .ref q_3, .int (nI 0), .int (nI 0), .null])), (q_1, .inl (cJ, 1024, .inr (.inl (fun _ => 0)))), (q_2, .inl (cJ, 1024, .inr (.inl (fun _ => 0)))), (q_3, .inl (cI, 10400, .inl (fun _ => 0)))] H := hP
  have hD : va_D A [(qm, .inr (9, [.int (nI 0), .int (nI 0), .ref q_1, .int (-1), .int (nI 0), .ref q_2, .int (nI 0), .ref q_3, .int (nI 0), .int (nI 0), .null])), (q_1, .inl (cJ, 1024, .inr (.inl (fun _ => 0)))), (q_2, .inl (cJ, 1024, .inr (.inl (fun _ => 0)))), (q_3, .inl (cI, 10400, .inl (fun _ => 0)))] := hD
  refine lv_aload_n hx hb dMo_init_36 rfl (lv_at hl 0 rfl) ?_
  refine lv_sipush (v := nI 1024) hx hb dMo_init_37 (by decide) ?_
  refine nw_long hx hb (hts _ tw_76) hK hP hD hS hA 0 rfl 1024 (by omega) (Nat.le_of_ble_eq_true rfl) (Nat.le_of_ble_eq_true rfl) dMo_init_40 (fun q_4 H hP hD hS => ?_)
  have hP : va_P D vwCl [(qm, .inr (9, [.int (nI 0), .int (nI 0), .ref q_1, .int (-1), .int (nI 0), .ref q_2, .int (nI 0), .ref q_3, .int (nI 0), .int (nI 0), .null])), (q_1, .inl (cJ, 1024, .inr (.inl (fun _ => 0)))), (q_2, .inl (cJ, 1024, .inr (.inl (fun _ => 0)))), (q_3, .inl (cI, 10400, .inl (fun _ => 0))), (q_4, .inl (cJ, 1024, .inr (.inl (fun _ => 0))))] H := hP
  have hD : va_D A [(qm, .inr (9, [.int (nI 0), .int (nI 0), .ref q_1, .int (-1), .int (nI 0), .ref q_2, .int (nI 0), .ref q_3, .int (nI 0), .int (nI 0), .null])), (q_1, .inl (cJ, 1024, .inr (.inl (fun _ => 0)))), (q_2, .inl (cJ, 1024, .inr (.inl (fun _ => 0)))), (q_3, .inl (cI, 10400, .inl (fun _ => 0))), (q_4, .inl (cJ, 1024, .inr (.inl (fun _ => 0))))] := hD
  refine va_putF (D := D) (ci := 9) (v := .ref q_4) (ty := .array .long) (C := "ColumnFormsModel") (T := TMo) (N := 11) hx hb hts inMo tyMo tyMo_ok nmMo hown hK hP hD hS 0 rfl rfl 10 (by decide) (hts _ tw_599) (fun _ h9 => h9) rfl hin rfl (by decide +kernel) rfl rfl (Nat.le_of_ble_eq_true rfl) dMo_init_42 (fun H locs hP hD hS => ?_)
  have hP : va_P D vwCl [(qm, .inr (9, [.int (nI 0), .int (nI 0), .ref q_1, .int (-1), .int (nI 0), .ref q_2, .int (nI 0), .ref q_3, .int (nI 0), .int (nI 0), .ref q_4])), (q_1, .inl (cJ, 1024, .inr (.inl (fun _ => 0)))), (q_2, .inl (cJ, 1024, .inr (.inl (fun _ => 0)))), (q_3, .inl (cI, 10400, .inl (fun _ => 0))), (q_4, .inl (cJ, 1024, .inr (.inl (fun _ => 0))))] H := hP
  have hD : va_D A [(qm, .inr (9, [.int (nI 0), .int (nI 0), .ref q_1, .int (-1), .int (nI 0), .ref q_2, .int (nI 0), .ref q_3, .int (nI 0), .int (nI 0), .ref q_4])), (q_1, .inl (cJ, 1024, .inr (.inl (fun _ => 0)))), (q_2, .inl (cJ, 1024, .inr (.inl (fun _ => 0)))), (q_3, .inl (cI, 10400, .inl (fun _ => 0))), (q_4, .inl (cJ, 1024, .inr (.inl (fun _ => 0))))] := hD
  exact hret (q_1, q_2, q_3, q_4) _ _ _ _ _ _ trivial (hP.sub [0, 1, 2, 3, 4] rfl) (hD.sub [0, 1, 2, 3, 4] (by decide) rfl) hS (Nat.le_of_ble_eq_true rfl) (Nat.le_of_ble_eq_true rfl) dMo_init_45

set_option maxHeartbeats 4000000 in
set_option maxRecDepth 100000 in
theorem m_thrown (l : Launch) (D : va_G) (cJ cB cI cF : ClassId) (qm : Nat) (cd : Int32) (n : Nat) (qmr : Nat) (fm : Int32) (cm : Nat) (qmc : Nat) (szv : Nat) (qmb : Nat) (btv : Nat) (dm : Nat) (qml : Nat) (sz : Nat) : Met l yMo_thrown (Cond.code yMo_thrown cMo_thrown 1 (some .int) :: wsG) ({ frames := 0, cells := 0, slots := 0, locals := 0 }) (va_Pc [.ref qm] (cfPre D (cfT cJ cB cI cF) [(qm, .inr (9, [.int cd, .int (nI n), .ref qmr, .int fm, .int (nI cm), .ref qmc, .int (nI szv), .ref qmb, .int (nI btv), .int (nI dm), .ref qml]))] sz)) (va_Qi (fun (r : Int32) (u : Unit) => r = cd ∧ True) (fun u t => cfPost D ((fun (u : Unit) => [(qm, .inr (9, [.int cd, .int (nI n), .ref qmr, .int fm, .int (nI cm), .ref qmc, .int (nI szv), .ref qmb, .int (nI btv), .int (nI dm), .ref qml]))]) u) (va_A [(qm, .inr (9, [.int cd, .int (nI n), .ref qmr, .int fm, .int (nI cm), .ref qmc, .int (nI szv), .ref qmb, .int (nI btv), .int (nI dm), .ref qml]))] sz) t) (va_A [(qm, .inr (9, [.int cd, .int (nI n), .ref qmr, .int fm, .int (nI cm), .ref qmc, .int (nI szv), .ref qmb, .int (nI btv), .int (nI dm), .ref qml]))] sz)) 0 0 (va_A [(qm, .inr (9, [.int cd, .int (nI n), .ref qmr, .int fm, .int (nI cm), .ref qmc, .int (nI szv), .ref qmb, .int (nI btv), .int (nI dm), .ref qml]))] sz) := by
  refine met_i (cc := cMo_thrown) (maxL := 1) (S := Unit) (D := D) (wO := fun (u : Unit) => [(qm, .inr (9, [.int cd, .int (nI n), .ref qmr, .int fm, .int (nI cm), .ref qmc, .int (nI szv), .ref qmb, .int (nI btv), .int (nI dm), .ref qml]))]) (by decide) (Nat.le_of_ble_eq_true rfl) ?_
  intro p e s m below meth c hx hb hml hown hts hlocks hin hWd A hA hsz hP hK hD hS Q hret ls hl
  have hown : s.vm.findClass "ColumnFormsModel" = some m.cls := hown
  have hl : lv_has ls 1 [(0, .ref qm)] := hl
  have hP : va_P D vwCl [(qm, .inr (9, [.int cd, .int (nI n), .ref qmr, .int fm, .int (nI cm), .ref qmc, .int (nI szv), .ref qmb, .int (nI btv), .int (nI dm), .ref qml]))] s.heap := hP
  refine lv_aload_n hx hb dMo_thrown_0 rfl (lv_at hl 0 rfl) ?_
  refine va_get (D := D) (ci := 9) (v := .int cd) (C := "ColumnFormsModel") (T := TMo) (N := 11) hx hb hts inMo hown hK hP 0 rfl rfl 0 (by decide) (hts _ tw_589) (fun _ h9 => h9) rfl dMo_thrown_1 ?_
  exact hret cd () _ _ _ _ _ _ ⟨rfl, trivial⟩ (hP.sub [0] rfl) (hD.sub [0] (by decide) rfl) hS (Nat.le_of_ble_eq_true rfl) (Nat.le_of_ble_eq_true rfl) dMo_thrown_4

set_option maxHeartbeats 4000000 in
set_option maxRecDepth 100000 in
theorem m_clear (l : Launch) (D : va_G) (cJ cB cI cF : ClassId) (qm : Nat) (cd : Int32) (n : Nat) (qmr : Nat) (fm : Int32) (cm : Nat) (qmc : Nat) (szv : Nat) (qmb : Nat) (btv : Nat) (dm : Nat) (qml : Nat) (sz : Nat) : Met l yMo_clear (Cond.code yMo_clear cMo_clear 2 (some .int) :: wsG) ({ frames := 0, cells := 0, slots := 0, locals := 0 }) (va_Pc [.ref qm] (cfPre D (cfT cJ cB cI cF) [(qm, .inr (9, [.int cd, .int (nI n), .ref qmr, .int fm, .int (nI cm), .ref qmc, .int (nI szv), .ref qmb, .int (nI btv), .int (nI dm), .ref qml]))] sz)) (va_Qi (fun (r : Int32) (u : Unit) => r = nI n ∧ True) (fun u t => cfPost D ((fun (u : Unit) => [(qm, .inr (9, [.int (nI 0), .int (nI 0), .ref qmr, .int fm, .int (nI cm), .ref qmc, .int (nI szv), .ref qmb, .int (nI btv), .int (nI dm), .ref qml]))]) u) (va_A [(qm, .inr (9, [.int cd, .int (nI n), .ref qmr, .int fm, .int (nI cm), .ref qmc, .int (nI szv), .ref qmb, .int (nI btv), .int (nI dm), .ref qml]))] sz) t) (va_A [(qm, .inr (9, [.int cd, .int (nI n), .ref qmr, .int fm, .int (nI cm), .ref qmc, .int (nI szv), .ref qmb, .int (nI btv), .int (nI dm), .ref qml]))] sz)) 0 0 (va_A [(qm, .inr (9, [.int cd, .int (nI n), .ref qmr, .int fm, .int (nI cm), .ref qmc, .int (nI szv), .ref qmb, .int (nI btv), .int (nI dm), .ref qml]))] sz) := by
  refine met_i (cc := cMo_clear) (maxL := 2) (S := Unit) (D := D) (wO := fun (u : Unit) => [(qm, .inr (9, [.int (nI 0), .int (nI 0), .ref qmr, .int fm, .int (nI cm), .ref qmc, .int (nI szv), .ref qmb, .int (nI btv), .int (nI dm), .ref qml]))]) (by decide) (Nat.le_of_ble_eq_true rfl) ?_
  intro p e s m below meth c hx hb hml hown hts hlocks hin hWd A hA hsz hP hK hD hS Q hret ls hl
  have hown : s.vm.findClass "ColumnFormsModel" = some m.cls := hown
  have hl : lv_has ls 2 [(0, .ref qm)] := hl
  have hP : va_P D vwCl [(qm, .inr (9, [.int cd, .int (nI n), .ref qmr, .int fm, .int (nI cm), .ref qmc, .int (nI szv), .ref qmb, .int (nI btv), .int (nI dm), .ref qml]))] s.heap := hP
  refine lv_aload_n hx hb dMo_clear_0 rfl (lv_at hl 0 rfl) ?_
  refine lv_iconst (v := nI 0) hx hb dMo_clear_1 (by decide) ?_
  refine va_put (D := D) (ci := 9) (v := .int (nI 0)) (ty := .int) (C := "ColumnFormsModel") (T := TMo) (N := 11) hx hb hts inMo tyMo tyMo_ok nmMo hown hK hP hD hS 0 rfl rfl 0 (by decide) (hts _ tw_589) (fun _ h9 => h9) rfl (by decide +kernel) rfl rfl (Nat.le_of_ble_eq_true rfl) dMo_clear_2 (fun H locs hP hD hS => ?_)
  have hP : va_P D vwCl [(qm, .inr (9, [.int (nI 0), .int (nI n), .ref qmr, .int fm, .int (nI cm), .ref qmc, .int (nI szv), .ref qmb, .int (nI btv), .int (nI dm), .ref qml]))] H := hP
  have hD : va_D A [(qm, .inr (9, [.int (nI 0), .int (nI n), .ref qmr, .int fm, .int (nI cm), .ref qmc, .int (nI szv), .ref qmb, .int (nI btv), .int (nI dm), .ref qml]))] := hD
  refine lv_aload_n hx hb dMo_clear_5 rfl (lv_at hl 0 rfl) ?_
  refine va_get (D := D) (ci := 9) (v := .int (nI n)) (C := "ColumnFormsModel") (T := TMo) (N := 11) hx hb hts inMo hown hK hP 0 rfl rfl 1 (by decide) (hts _ tw_590) (fun _ h9 => h9) rfl dMo_clear_6 ?_
  refine lv_istore_n (lv' := [(1, .int (nI n)), (0, .ref qm)]) hx hb dMo_clear_9 rfl hl (by decide) rfl (fun ls hl => ?_)
  refine lv_aload_n hx hb dMo_clear_10 rfl (lv_at hl 1 rfl) ?_
  refine lv_iconst (v := nI 0) hx hb dMo_clear_11 (by decide) ?_
  refine va_put (D := D) (ci := 9) (v := .int (nI 0)) (ty := .int) (C := "ColumnFormsModel") (T := TMo) (N := 11) hx hb hts inMo tyMo tyMo_ok nmMo hown hK hP hD hS 0 rfl rfl 1 (by decide) (hts _ tw_590) (fun _ h9 => h9) rfl (by decide +kernel) rfl rfl (Nat.le_of_ble_eq_true rfl) dMo_clear_12 (fun H locs hP hD hS => ?_)
  have hP : va_P D vwCl [(qm, .inr (9, [.int (nI 0), .int (nI 0), .ref qmr, .int fm, .int (nI cm), .ref qmc, .int (nI szv), .ref qmb, .int (nI btv), .int (nI dm), .ref qml]))] H := hP
  have hD : va_D A [(qm, .inr (9, [.int (nI 0), .int (nI 0), .ref qmr, .int fm, .int (nI cm), .ref qmc, .int (nI szv), .ref qmb, .int (nI btv), .int (nI dm), .ref qml]))] := hD
  refine lv_iload_n hx hb dMo_clear_15 rfl (lv_at hl 0 rfl) ?_
  exact hret (nI n) () _ _ _ _ _ _ ⟨rfl, trivial⟩ (hP.sub [0] rfl) (hD.sub [0] (by decide) rfl) hS (Nat.le_of_ble_eq_true rfl) (Nat.le_of_ble_eq_true rfl) dMo_clear_16

set_option maxHeartbeats 4000000 in
set_option maxRecDepth 100000 in
theorem m_put (l : Launch) (D : va_G) (cJ cB cI cF : ClassId) (qm : Nat) (cd : Int32) (n : Nat) (qmr : Nat) (fm : Int32) (cm : Nat) (qmc : Nat) (szv : Nat) (qmb : Nat) (btv : Nat) (dm : Nat) (qml : Nat) (xs : Nat → Int64) (v : Int64) (sz : Nat) (hn : n < 1024) : Met l yMo_put (Cond.code yMo_put cMo_put 3 (some .int) :: wsG) ({ frames := 0, cells := 0, slots := 0, locals := 0 }) (va_Pc [.ref qm, .long v] (cfPre D (cfT cJ cB cI cF) [(qm, .inr (9, [.int cd, .int (nI n), .ref qmr, .int fm, .int (nI cm), .ref qmc, .int (nI szv), .ref qmb, .int (nI btv), .int (nI dm), .ref qml])), (qmr, .inl (cJ, 1024, .inr (.inl xs)))] sz)) (va_Qi (fun (r : Int32) (u : Unit) => r = nI (n + 1) ∧ True) (fun u t => cfPost D ((fun (u : Unit) => [(qm, .inr (9, [.int (nI 0), .int (nI (n + 1)), .ref qmr, .int fm, .int (nI cm), .ref qmc, .int (nI szv), .ref qmb, .int (nI btv), .int (nI dm), .ref qml])), (qmr, .inl (cJ, 1024, .inr (.inl (vp_updL xs n v))))]) u) (va_A [(qm, .inr (9, [.int cd, .int (nI n), .ref qmr, .int fm, .int (nI cm), .ref qmc, .int (nI szv), .ref qmb, .int (nI btv), .int (nI dm), .ref qml])), (qmr, .inl (cJ, 1024, .inr (.inl xs)))] sz) t) (va_A [(qm, .inr (9, [.int cd, .int (nI n), .ref qmr, .int fm, .int (nI cm), .ref qmc, .int (nI szv), .ref qmb, .int (nI btv), .int (nI dm), .ref qml])), (qmr, .inl (cJ, 1024, .inr (.inl xs)))] sz)) 0 0 (va_A [(qm, .inr (9, [.int cd, .int (nI n), .ref qmr, .int fm, .int (nI cm), .ref qmc, .int (nI szv), .ref qmb, .int (nI btv), .int (nI dm), .ref qml])), (qmr, .inl (cJ, 1024, .inr (.inl xs)))] sz) := by
  refine met_i (cc := cMo_put) (maxL := 3) (S := Unit) (D := D) (wO := fun (u : Unit) => [(qm, .inr (9, [.int (nI 0), .int (nI (n + 1)), .ref qmr, .int fm, .int (nI cm), .ref qmc, .int (nI szv), .ref qmb, .int (nI btv), .int (nI dm), .ref qml])), (qmr, .inl (cJ, 1024, .inr (.inl (vp_updL xs n v))))]) (by decide) (Nat.le_of_ble_eq_true rfl) ?_
  intro p e s m below meth c hx hb hml hown hts hlocks hin hWd A hA hsz hP hK hD hS Q hret ls hl
  have hown : s.vm.findClass "ColumnFormsModel" = some m.cls := hown
  have hl : lv_has ls 3 [(0, .ref qm), (1, .long v)] := hl
  have hP : va_P D vwCl [(qm, .inr (9, [.int cd, .int (nI n), .ref qmr, .int fm, .int (nI cm), .ref qmc, .int (nI szv), .ref qmb, .int (nI btv), .int (nI dm), .ref qml])), (qmr, .inl (cJ, 1024, .inr (.inl xs)))] s.heap := hP
  refine lv_aload_n hx hb dMo_put_0 rfl (lv_at hl 0 rfl) ?_
  refine lv_aload_n hx hb dMo_put_1 rfl (lv_at hl 0 rfl) ?_
  refine va_get (D := D) (ci := 9) (v := .int (nI n)) (C := "ColumnFormsModel") (T := TMo) (N := 11) hx hb hts inMo hown hK hP 0 rfl rfl 1 (by decide) (hts _ tw_590) (fun _ h9 => h9) rfl dMo_put_2 ?_
  refine lv_sipush (v := nI 1024) hx hb dMo_put_5 (by decide) ?_
  refine lv_icmp_ne (tgt := 15) hx hb dMo_put_8 (by decide) (fun c8 => ?_) (fun c8 => ?_)
  · have c8 : ¬ n = 1024 := fun h => c8 ((nI_eq (by omega) (by omega)).mpr h)
    refine lv_iconst (v := nI 0) hx hb dMo_put_15 (by decide) ?_
    refine va_put (D := D) (ci := 9) (v := .int (nI 0)) (ty := .int) (C := "ColumnFormsModel") (T := TMo) (N := 11) hx hb hts inMo tyMo tyMo_ok nmMo hown hK hP hD hS 0 rfl rfl 0 (by decide) (hts _ tw_589) (fun _ h9 => h9) rfl (by decide +kernel) rfl rfl (Nat.le_of_ble_eq_true rfl) dMo_put_16 (fun H locs hP hD hS => ?_)
    have hP : va_P D vwCl [(qm, .inr (9, [.int (nI 0), .int (nI n), .ref qmr, .int fm, .int (nI cm), .ref qmc, .int (nI szv), .ref qmb, .int (nI btv), .int (nI dm), .ref qml])), (qmr, .inl (cJ, 1024, .inr (.inl xs)))] H := hP
    have hD : va_D A [(qm, .inr (9, [.int (nI 0), .int (nI n), .ref qmr, .int fm, .int (nI cm), .ref qmc, .int (nI szv), .ref qmb, .int (nI btv), .int (nI dm), .ref qml])), (qmr, .inl (cJ, 1024, .inr (.inl xs)))] := hD
    refine lv_aload_n hx hb dMo_put_19 rfl (lv_at hl 0 rfl) ?_
    refine va_get (D := D) (ci := 9) (v := .int (nI 0)) (C := "ColumnFormsModel") (T := TMo) (N := 11) hx hb hts inMo hown hK hP 0 rfl rfl 0 (by decide) (hts _ tw_589) (fun _ h9 => h9) rfl dMo_put_20 ?_
    refine lv_if_le (tgt := 28) hx hb dMo_put_23 (by decide) (fun c23 => ?_) (fun c23 => ?_)
    · have c23 : 0 ≤ 0 := (nI_leI (b := 0) (by omega) (by omega)).mp c23
      refine lv_aload_n hx hb dMo_put_28 rfl (lv_at hl 0 rfl) ?_
      refine va_get (D := D) (ci := 9) (v := .ref qmr) (C := "ColumnFormsModel") (T := TMo) (N := 11) hx hb hts inMo hown hK hP 0 rfl rfl 2 (by decide) (hts _ tw_591) (fun _ h9 => h9) rfl dMo_put_29 ?_
      refine lv_aload_n hx hb dMo_put_32 rfl (lv_at hl 0 rfl) ?_
      refine va_get (D := D) (ci := 9) (v := .int (nI n)) (C := "ColumnFormsModel") (T := TMo) (N := 11) hx hb hts inMo hown hK hP 0 rfl rfl 1 (by decide) (hts _ tw_590) (fun _ h9 => h9) rfl dMo_put_33 ?_
      refine lv_lload_n hx hb dMo_put_36 rfl (lv_at hl 1 rfl) ?_
      refine va_last hx hb hK hP hD hS 1 0 rfl rfl (vp_in_nI (by omega) (by omega)) dMo_put_37 (fun H locs hP hD hS => ?_)
      rw [nI_clamp (by omega)] at hP hD
      have hP : va_P D vwCl [(qm, .inr (9, [.int (nI 0), .int (nI n), .ref qmr, .int fm, .int (nI cm), .ref qmc, .int (nI szv), .ref qmb, .int (nI btv), .int (nI dm), .ref qml])), (qmr, .inl (cJ, 1024, .inr (.inl (vp_updL xs n v))))] H := hP
      have hD : va_D A [(qm, .inr (9, [.int (nI 0), .int (nI n), .ref qmr, .int fm, .int (nI cm), .ref qmc, .int (nI szv), .ref qmb, .int (nI btv), .int (nI dm), .ref qml])), (qmr, .inl (cJ, 1024, .inr (.inl (vp_updL xs n v))))] := hD
      refine lv_aload_n hx hb dMo_put_38 rfl (lv_at hl 0 rfl) ?_
      refine lv_dup hx hb dMo_put_39 rfl ?_
      refine va_get (D := D) (ci := 9) (v := .int (nI n)) (C := "ColumnFormsModel") (T := TMo) (N := 11) hx hb hts inMo hown hK hP 0 rfl rfl 1 (by decide) (hts _ tw_590) (fun _ h9 => h9) rfl dMo_put_40 ?_
      refine lv_iconst (v := nI 1) hx hb dMo_put_43 (by decide) ?_
      refine lv_iadd hx hb dMo_put_44 ?_
      refine tp_i (show ((nI n) + (nI 1)) = (nI (n + 1)) from nI_add _ _) ?_
      refine va_put (D := D) (ci := 9) (v := .int (nI (n + 1))) (ty := .int) (C := "ColumnFormsModel") (T := TMo) (N := 11) hx hb hts inMo tyMo tyMo_ok nmMo hown hK hP hD hS 0 rfl rfl 1 (by decide) (hts _ tw_590) (fun _ h9 => h9) rfl (by decide +kernel) rfl rfl (Nat.le_of_ble_eq_true rfl) dMo_put_45 (fun H locs hP hD hS => ?_)
      have hP : va_P D vwCl [(qm, .inr (9, [.int (nI 0), .int (nI (n + 1)), .ref qmr, .int fm, .int (nI cm), .ref qmc, .int (nI szv), .ref qmb, .int (nI btv), .int (nI dm), .ref qml])), (qmr, .inl (cJ, 1024, .inr (.inl (vp_updL xs n v))))] H := hP
      have hD : va_D A [(qm, .inr (9, [.int (nI 0), .int (nI (n + 1)), .ref qmr, .int fm, .int (nI cm), .ref qmc, .int (nI szv), .ref qmb, .int (nI btv), .int (nI dm), .ref qml])), (qmr, .inl (cJ, 1024, .inr (.inl (vp_updL xs n v))))] := hD
      refine lv_aload_n hx hb dMo_put_48 rfl (lv_at hl 0 rfl) ?_
      refine va_get (D := D) (ci := 9) (v := .int (nI (n + 1))) (C := "ColumnFormsModel") (T := TMo) (N := 11) hx hb hts inMo hown hK hP 0 rfl rfl 1 (by decide) (hts _ tw_590) (fun _ h9 => h9) rfl dMo_put_49 ?_
      exact hret (nI (n + 1)) () _ _ _ _ _ _ ⟨rfl, trivial⟩ (hP.sub [0, 1] rfl) (hD.sub [0, 1] (by decide) rfl) hS (Nat.le_of_ble_eq_true rfl) (Nat.le_of_ble_eq_true rfl) dMo_put_52
    · have c23 : ¬ 0 ≤ 0 := fun h => c23 ((nI_leI (b := 0) (by omega) (by omega)).mpr h)
      exact absurd c23 (by decide)
  · have c8 : n = 1024 := (nI_eq (by omega) (by omega)).mp c8
    exact absurd c8 (by omega)

set_option maxHeartbeats 4000000 in
set_option maxRecDepth 100000 in
theorem m_putX (l : Launch) (D : va_G) (cJ cB cI cF : ClassId) (qm : Nat) (cd : Int32) (n : Nat) (qmr : Nat) (fm : Int32) (cm : Nat) (qmc : Nat) (szv : Nat) (qmb : Nat) (btv : Nat) (dm : Nat) (qml : Nat) (v : Int64) (sz : Nat) (hn : n = 1024) : Met l yMo_put (Cond.code yMo_put cMo_put 3 (some .int) :: wsG) ({ frames := 0, cells := 0, slots := 0, locals := 0 }) (va_Pc [.ref qm, .long v] (cfPre D (cfT cJ cB cI cF) [(qm, .inr (9, [.int cd, .int (nI n), .ref qmr, .int fm, .int (nI cm), .ref qmc, .int (nI szv), .ref qmb, .int (nI btv), .int (nI dm), .ref qml]))] sz)) (va_Qi (fun (r : Int32) (u : Unit) => r = nI 0 ∧ True) (fun u t => cfPost D ((fun (u : Unit) => [(qm, .inr (9, [.int (nI 1), .int (nI n), .ref qmr, .int fm, .int (nI cm), .ref qmc, .int (nI szv), .ref qmb, .int (nI btv), .int (nI dm), .ref qml]))]) u) (va_A [(qm, .inr (9, [.int cd, .int (nI n), .ref qmr, .int fm, .int (nI cm), .ref qmc, .int (nI szv), .ref qmb, .int (nI btv), .int (nI dm), .ref qml]))] sz) t) (va_A [(qm, .inr (9, [.int cd, .int (nI n), .ref qmr, .int fm, .int (nI cm), .ref qmc, .int (nI szv), .ref qmb, .int (nI btv), .int (nI dm), .ref qml]))] sz)) 0 0 (va_A [(qm, .inr (9, [.int cd, .int (nI n), .ref qmr, .int fm, .int (nI cm), .ref qmc, .int (nI szv), .ref qmb, .int (nI btv), .int (nI dm), .ref qml]))] sz) := by
  refine met_i (cc := cMo_put) (maxL := 3) (S := Unit) (D := D) (wO := fun (u : Unit) => [(qm, .inr (9, [.int (nI 1), .int (nI n), .ref qmr, .int fm, .int (nI cm), .ref qmc, .int (nI szv), .ref qmb, .int (nI btv), .int (nI dm), .ref qml]))]) (by decide) (Nat.le_of_ble_eq_true rfl) ?_
  intro p e s m below meth c hx hb hml hown hts hlocks hin hWd A hA hsz hP hK hD hS Q hret ls hl
  have hown : s.vm.findClass "ColumnFormsModel" = some m.cls := hown
  have hl : lv_has ls 3 [(0, .ref qm), (1, .long v)] := hl
  have hP : va_P D vwCl [(qm, .inr (9, [.int cd, .int (nI n), .ref qmr, .int fm, .int (nI cm), .ref qmc, .int (nI szv), .ref qmb, .int (nI btv), .int (nI dm), .ref qml]))] s.heap := hP
  refine lv_aload_n hx hb dMo_put_0 rfl (lv_at hl 0 rfl) ?_
  refine lv_aload_n hx hb dMo_put_1 rfl (lv_at hl 0 rfl) ?_
  refine va_get (D := D) (ci := 9) (v := .int (nI n)) (C := "ColumnFormsModel") (T := TMo) (N := 11) hx hb hts inMo hown hK hP 0 rfl rfl 1 (by decide) (hts _ tw_590) (fun _ h9 => h9) rfl dMo_put_2 ?_
  refine lv_sipush (v := nI 1024) hx hb dMo_put_5 (by decide) ?_
  refine lv_icmp_ne (tgt := 15) hx hb dMo_put_8 (by decide) (fun c8 => ?_) (fun c8 => ?_)
  · have c8 : ¬ n = 1024 := fun h => c8 ((nI_eq (by omega) (by omega)).mpr h)
    exact absurd hn c8
  · have c8 : n = 1024 := (nI_eq (by omega) (by omega)).mp c8
    refine lv_iconst (v := nI 1) hx hb dMo_put_11 (by decide) ?_
    refine lv_goto (tgt := 16) hx hb dMo_put_12 (by decide) ?_
    refine va_put (D := D) (ci := 9) (v := .int (nI 1)) (ty := .int) (C := "ColumnFormsModel") (T := TMo) (N := 11) hx hb hts inMo tyMo tyMo_ok nmMo hown hK hP hD hS 0 rfl rfl 0 (by decide) (hts _ tw_589) (fun _ h9 => h9) rfl (by decide +kernel) rfl rfl (Nat.le_of_ble_eq_true rfl) dMo_put_16 (fun H locs hP hD hS => ?_)
    have hP : va_P D vwCl [(qm, .inr (9, [.int (nI 1), .int (nI n), .ref qmr, .int fm, .int (nI cm), .ref qmc, .int (nI szv), .ref qmb, .int (nI btv), .int (nI dm), .ref qml]))] H := hP
    have hD : va_D A [(qm, .inr (9, [.int (nI 1), .int (nI n), .ref qmr, .int fm, .int (nI cm), .ref qmc, .int (nI szv), .ref qmb, .int (nI btv), .int (nI dm), .ref qml]))] := hD
    refine lv_aload_n hx hb dMo_put_19 rfl (lv_at hl 0 rfl) ?_
    refine va_get (D := D) (ci := 9) (v := .int (nI 1)) (C := "ColumnFormsModel") (T := TMo) (N := 11) hx hb hts inMo hown hK hP 0 rfl rfl 0 (by decide) (hts _ tw_589) (fun _ h9 => h9) rfl dMo_put_20 ?_
    refine lv_if_le (tgt := 28) hx hb dMo_put_23 (by decide) (fun c23 => ?_) (fun c23 => ?_)
    · have c23 : 1 ≤ 0 := (nI_leI (b := 0) (by omega) (by omega)).mp c23
      exact absurd c23 (by decide)
    · have c23 : ¬ 1 ≤ 0 := fun h => c23 ((nI_leI (b := 0) (by omega) (by omega)).mpr h)
      refine lv_iconst (v := nI 0) hx hb dMo_put_26 (by decide) ?_
      exact hret (nI 0) () _ _ _ _ _ _ ⟨rfl, trivial⟩ (hP.sub [0] rfl) (hD.sub [0] (by decide) rfl) hS (Nat.le_of_ble_eq_true rfl) (Nat.le_of_ble_eq_true rfl) dMo_put_27

set_option maxHeartbeats 4000000 in
set_option maxRecDepth 100000 in
theorem m_fill (l : Launch) (D : va_G) (cJ cB cI cF : ClassId) (qm : Nat) (cd : Int32) (n : Nat) (qmr : Nat) (fm : Int32) (cm : Nat) (qmc : Nat) (szv : Nat) (qmb : Nat) (btv : Nat) (dm : Nat) (qml : Nat) (xs : Nat → Int64) (a : Int64) (st : Int64) (k : Nat) (sz : Nat) (hk1 : 1 ≤ k) (hn : n + k ≤ 1024) : Met l yMo_fill (Cond.code yMo_fill cMo_fill 9 (some .int) :: wsG) ({ frames := 0, cells := 0, slots := 0, locals := 0 }) (va_Pc [.ref qm, .long a, .long st, .int (nI k)] (cfPre D (cfT cJ cB cI cF) [(qm, .inr (9, [.int cd, .int (nI n), .ref qmr, .int fm, .int (nI cm), .ref qmc, .int (nI szv), .ref qmb, .int (nI btv), .int (nI dm), .ref qml])), (qmr, .inl (cJ, 1024, .inr (.inl xs)))] sz)) (va_Qi (fun (r : Int32) (u : Unit) => r = nI (n + k) ∧ True) (fun u t => cfPost D ((fun (u : Unit) => [(qm, .inr (9, [.int (nI 0), .int (nI (n + k)), .ref qmr, .int fm, .int (nI cm), .ref qmc, .int (nI szv), .ref qmb, .int (nI btv), .int (nI dm), .ref qml])), (qmr, .inl (cJ, 1024, .inr (.inl (flX xs n a st k))))]) u) (va_A [(qm, .inr (9, [.int cd, .int (nI n), .ref qmr, .int fm, .int (nI cm), .ref qmc, .int (nI szv), .ref qmb, .int (nI btv), .int (nI dm), .ref qml])), (qmr, .inl (cJ, 1024, .inr (.inl xs)))] sz) t) (va_A [(qm, .inr (9, [.int cd, .int (nI n), .ref qmr, .int fm, .int (nI cm), .ref qmc, .int (nI szv), .ref qmb, .int (nI btv), .int (nI dm), .ref qml])), (qmr, .inl (cJ, 1024, .inr (.inl xs)))] sz)) 0 0 (va_A [(qm, .inr (9, [.int cd, .int (nI n), .ref qmr, .int fm, .int (nI cm), .ref qmc, .int (nI szv), .ref qmb, .int (nI btv), .int (nI dm), .ref qml])), (qmr, .inl (cJ, 1024, .inr (.inl xs)))] sz) := by
  refine met_i (cc := cMo_fill) (maxL := 9) (S := Unit) (D := D) (wO := fun (u : Unit) => [(qm, .inr (9, [.int (nI 0), .int (nI (n + k)), .ref qmr, .int fm, .int (nI cm), .ref qmc, .int (nI szv), .ref qmb, .int (nI btv), .int (nI dm), .ref qml])), (qmr, .inl (cJ, 1024, .inr (.inl (flX xs n a st k))))]) (by decide) (Nat.le_of_ble_eq_true rfl) ?_
  intro p e s m below meth c hx hb hml hown hts hlocks hin hWd A hA hsz hP hK hD hS Q hret ls hl
  have hown : s.vm.findClass "ColumnFormsModel" = some m.cls := hown
  have hl : lv_has ls 9 [(0, .ref qm), (1, .long a), (3, .long st), (5, .int (nI k))] := hl
  have hP : va_P D vwCl [(qm, .inr (9, [.int cd, .int (nI n), .ref qmr, .int fm, .int (nI cm), .ref qmc, .int (nI szv), .ref qmb, .int (nI btv), .int (nI dm), .ref qml])), (qmr, .inl (cJ, 1024, .inr (.inl xs)))] s.heap := hP
  refine lv_aload_n hx hb dMo_fill_0 rfl (lv_at hl 0 rfl) ?_
  refine lv_iload hx hb dMo_fill_1 (lv_at hl 3 rfl) ?_
  refine lv_iconst (v := nI 1) hx hb dMo_fill_3 (by decide) ?_
  refine lv_icmp_lt (tgt := 15) hx hb dMo_fill_4 (by decide) (fun c4 => ?_) (fun c4 => ?_)
  · have c4 : k < 1 := (nI_ltI (by omega) (by omega)).mp c4
    exact absurd c4 (by omega)
  · have c4 : ¬ k < 1 := fun h => c4 ((nI_ltI (by omega) (by omega)).mpr h)
    refine lv_iload hx hb dMo_fill_7 (lv_at hl 3 rfl) ?_
    refine lv_sipush (v := nI 1024) hx hb dMo_fill_9 (by decide) ?_
    refine lv_icmp_le (tgt := 19) hx hb dMo_fill_12 (by decide) (fun c12 => ?_) (fun c12 => ?_)
    · have c12 : k ≤ 1024 := (nI_leI (by omega) (by omega)).mp c12
      refine lv_aload_n hx hb dMo_fill_19 rfl (lv_at hl 0 rfl) ?_
      refine va_get (D := D) (ci := 9) (v := .int (nI n)) (C := "ColumnFormsModel") (T := TMo) (N := 11) hx hb hts inMo hown hK hP 0 rfl rfl 1 (by decide) (hts _ tw_590) (fun _ h9 => h9) rfl dMo_fill_20 ?_
      refine lv_iload hx hb dMo_fill_23 (lv_at hl 3 rfl) ?_
      refine lv_iadd hx hb dMo_fill_25 ?_
      refine tp_i (show ((nI n) + (nI k)) = (nI (n + k)) from nI_add _ _) ?_
      refine lv_sipush (v := nI 1024) hx hb dMo_fill_26 (by decide) ?_
      refine lv_icmp_le (tgt := 36) hx hb dMo_fill_29 (by decide) (fun c29 => ?_) (fun c29 => ?_)
      · have c29 : (n + k) ≤ 1024 := (nI_leI (by omega) (by omega)).mp c29
        refine lv_iconst (v := nI 0) hx hb dMo_fill_36 (by decide) ?_
        refine va_put (D := D) (ci := 9) (v := .int (nI 0)) (ty := .int) (C := "ColumnFormsModel") (T := TMo) (N := 11) hx hb hts inMo tyMo tyMo_ok nmMo hown hK hP hD hS 0 rfl rfl 0 (by decide) (hts _ tw_589) (fun _ h9 => h9) rfl (by decide +kernel) rfl rfl (Nat.le_of_ble_eq_true rfl) dMo_fill_37 (fun H locs hP hD hS => ?_)
        have hP : va_P D vwCl [(qm, .inr (9, [.int (nI 0), .int (nI n), .ref qmr, .int fm, .int (nI cm), .ref qmc, .int (nI szv), .ref qmb, .int (nI btv), .int (nI dm), .ref qml])), (qmr, .inl (cJ, 1024, .inr (.inl xs)))] H := hP
        have hD : va_D A [(qm, .inr (9, [.int (nI 0), .int (nI n), .ref qmr, .int fm, .int (nI cm), .ref qmc, .int (nI szv), .ref qmb, .int (nI btv), .int (nI dm), .ref qml])), (qmr, .inl (cJ, 1024, .inr (.inl xs)))] := hD
        refine lv_lload_n hx hb dMo_fill_40 rfl (lv_at hl 1 rfl) ?_
        refine lv_lstore (lv' := [(6, .long a), (0, .ref qm), (1, .long a), (3, .long st), (5, .int (nI k))]) hx hb dMo_fill_41 hl (by decide) rfl (fun ls hl => ?_)
        refine lv_iconst (v := nI 0) hx hb dMo_fill_43 (by decide) ?_
        refine lv_istore (lv' := [(8, .int (nI 0)), (6, .long a), (0, .ref qm), (1, .long a), (3, .long st), (5, .int (nI k))]) hx hb dMo_fill_44 hl (by decide) rfl (fun ls hl => ?_)
        have lp : ∀ (k_lp : Nat) (i : Nat) (nn : Nat), (i ≤ k) → (nn = n + i) → (k - i < k_lp) → ∀ (H : Heap) (locs : List Loc) (ls : Array Slot), va_P D vwCl [(qm, .inr (9, [.int (nI 0), .int (nI nn), .ref qmr, .int fm, .int (nI cm), .ref qmc, .int (nI szv), .ref qmb, .int (nI btv), .int (nI dm), .ref qml])), (qmr, .inl (cJ, 1024, .inr (.inl (flX xs n a st i))))] H → va_D A [(qm, .inr (9, [.int (nI 0), .int (nI nn), .ref qmr, .int fm, .int (nI cm), .ref qmc, .int (nI szv), .ref qmb, .int (nI btv), .int (nI dm), .ref qml])), (qmr, .inl (cJ, 1024, .inr (.inl (flX xs n a st i))))] → va_S A s.heap H locs → lv_has ls 9 [(0, .ref qm), (1, .long a), (3, .long st), (5, .int (nI k)), (6, .long (fv a st i)), (8, .int (nI i))] → W p l e ({ frames := 0, cells := 0, slots := 0, locals := 0 }) s m ([.ref qm, .long a, .long st, .int (nI k)].toArray) below meth c H locs (0) (0) Q (F0 m 46 ls []) := by
          intro k_lp
          induction k_lp with
          | zero => intro i nn j1 j2 hfu; exact absurd hfu (by omega)
          | succ k_lp ih_lp =>
            intro i nn j1 j2 hfu H locs ls hP hD hS hl
            refine lv_iload hx hb dMo_fill_46 (lv_at hl 5 rfl) ?_
            refine lv_iload hx hb dMo_fill_48 (lv_at hl 3 rfl) ?_
            refine lv_icmp_ge (tgt := 93) hx hb dMo_fill_50 (by decide) (fun c50 => ?_) (fun c50 => ?_)
            · have c50 : k ≤ i := (nI_leI (by omega) (by omega)).mp c50
              have e9 : i = k := by omega
              subst j2
              subst e9
              refine lv_aload_n hx hb dMo_fill_93 rfl (lv_at hl 0 rfl) ?_
              refine va_get (D := D) (ci := 9) (v := .int (nI 0)) (C := "ColumnFormsModel") (T := TMo) (N := 11) hx hb hts inMo hown hK hP 0 rfl rfl 0 (by decide) (hts _ tw_589) (fun _ h9 => h9) rfl dMo_fill_94 ?_
              refine lv_if_le (tgt := 104) hx hb dMo_fill_97 (by decide) (fun c97 => ?_) (fun c97 => ?_)
              · have c97 : 0 ≤ 0 := (nI_leI (b := 0) (by omega) (by omega)).mp c97
                refine lv_aload_n hx hb dMo_fill_104 rfl (lv_at hl 0 rfl) ?_
                refine va_get (D := D) (ci := 9) (v := .int (nI (n + i))) (C := "ColumnFormsModel") (T := TMo) (N := 11) hx hb hts inMo hown hK hP 0 rfl rfl 1 (by decide) (hts _ tw_590) (fun _ h9 => h9) rfl dMo_fill_105 ?_
                exact hret (nI (n + i)) () _ _ _ _ _ _ ⟨rfl, trivial⟩ (hP.sub [0, 1] rfl) (hD.sub [0, 1] (by decide) rfl) hS (Nat.le_of_ble_eq_true rfl) (Nat.le_of_ble_eq_true rfl) dMo_fill_108
              · have c97 : ¬ 0 ≤ 0 := fun h => c97 ((nI_leI (b := 0) (by omega) (by omega)).mpr h)
                exact absurd c97 (by decide)
            · have c50 : ¬ k ≤ i := fun h => c50 ((nI_leI (by omega) (by omega)).mpr h)
              subst j2
              refine lv_aload_n hx hb dMo_fill_53 rfl (lv_at hl 0 rfl) ?_
              refine va_get (D := D) (ci := 9) (v := .int (nI 0)) (C := "ColumnFormsModel") (T := TMo) (N := 11) hx hb hts inMo hown hK hP 0 rfl rfl 0 (by decide) (hts _ tw_589) (fun _ h9 => h9) rfl dMo_fill_54 ?_
              refine lv_if_ne (tgt := 93) hx hb dMo_fill_57 (by decide) (fun c57 => ?_) (fun c57 => ?_)
              · have c57 : ¬ 0 = 0 := fun h => c57 ((nI_eq (b := 0) (by omega) (by omega)).mpr h)
                exact absurd c57 (by decide)
              · have c57 : 0 = 0 := (nI_eq (b := 0) (by omega) (by omega)).mp c57
                refine lv_aload_n hx hb dMo_fill_60 rfl (lv_at hl 0 rfl) ?_
                refine va_get (D := D) (ci := 9) (v := .ref qmr) (C := "ColumnFormsModel") (T := TMo) (N := 11) hx hb hts inMo hown hK hP 0 rfl rfl 2 (by decide) (hts _ tw_591) (fun _ h9 => h9) rfl dMo_fill_61 ?_
                refine lv_aload_n hx hb dMo_fill_64 rfl (lv_at hl 0 rfl) ?_
                refine va_get (D := D) (ci := 9) (v := .int (nI (n + i))) (C := "ColumnFormsModel") (T := TMo) (N := 11) hx hb hts inMo hown hK hP 0 rfl rfl 1 (by decide) (hts _ tw_590) (fun _ h9 => h9) rfl dMo_fill_65 ?_
                refine lv_lload hx hb dMo_fill_68 (lv_at hl 4 rfl) ?_
                refine va_last hx hb hK hP hD hS 1 0 rfl rfl (vp_in_nI (by omega) (by omega)) dMo_fill_70 (fun H locs hP hD hS => ?_)
                rw [nI_clamp (by omega)] at hP hD
                have hP : va_P D vwCl [(qm, .inr (9, [.int (nI 0), .int (nI (n + i)), .ref qmr, .int fm, .int (nI cm), .ref qmc, .int (nI szv), .ref qmb, .int (nI btv), .int (nI dm), .ref qml])), (qmr, .inl (cJ, 1024, .inr (.inl (vp_updL (flX xs n a st i) (n + i) (fv a st i)))))] H := hP
                have hD : va_D A [(qm, .inr (9, [.int (nI 0), .int (nI (n + i)), .ref qmr, .int fm, .int (nI cm), .ref qmc, .int (nI szv), .ref qmb, .int (nI btv), .int (nI dm), .ref qml])), (qmr, .inl (cJ, 1024, .inr (.inl (vp_updL (flX xs n a st i) (n + i) (fv a st i)))))] := hD
                have hP : va_P D vwCl [(qm, .inr (9, [.int (nI 0), .int (nI (n + i)), .ref qmr, .int fm, .int (nI cm), .ref qmc, .int (nI szv), .ref qmb, .int (nI btv), .int (nI dm), .ref qml])), (qmr, .inl (cJ, 1024, .inr (.inl (flX xs n a st (i + 1)))))] H := hP
                have hD : va_D A [(qm, .inr (9, [.int (nI 0), .int (nI (n + i)), .ref qmr, .int fm, .int (nI cm), .ref qmc, .int (nI szv), .ref qmb, .int (nI btv), .int (nI dm), .ref qml])), (qmr, .inl (cJ, 1024, .inr (.inl (flX xs n a st (i + 1)))))] := hD
                refine lv_aload_n hx hb dMo_fill_71 rfl (lv_at hl 0 rfl) ?_
                refine lv_dup hx hb dMo_fill_72 rfl ?_
                refine va_get (D := D) (ci := 9) (v := .int (nI (n + i))) (C := "ColumnFormsModel") (T := TMo) (N := 11) hx hb hts inMo hown hK hP 0 rfl rfl 1 (by decide) (hts _ tw_590) (fun _ h9 => h9) rfl dMo_fill_73 ?_
                refine lv_iconst (v := nI 1) hx hb dMo_fill_76 (by decide) ?_
                refine lv_iadd hx hb dMo_fill_77 ?_
                refine tp_i (show ((nI (n + i)) + (nI 1)) = (nI ((n + i) + 1)) from nI_add _ _) ?_
                refine va_put (D := D) (ci := 9) (v := .int (nI ((n + i) + 1))) (ty := .int) (C := "ColumnFormsModel") (T := TMo) (N := 11) hx hb hts inMo tyMo tyMo_ok nmMo hown hK hP hD hS 0 rfl rfl 1 (by decide) (hts _ tw_590) (fun _ h9 => h9) rfl (by decide +kernel) rfl rfl (Nat.le_of_ble_eq_true rfl) dMo_fill_78 (fun H locs hP hD hS => ?_)
                have hP : va_P D vwCl [(qm, .inr (9, [.int (nI 0), .int (nI ((n + i) + 1)), .ref qmr, .int fm, .int (nI cm), .ref qmc, .int (nI szv), .ref qmb, .int (nI btv), .int (nI dm), .ref qml])), (qmr, .inl (cJ, 1024, .inr (.inl (flX xs n a st (i + 1)))))] H := hP
                have hD : va_D A [(qm, .inr (9, [.int (nI 0), .int (nI ((n + i) + 1)), .ref qmr, .int fm, .int (nI cm), .ref qmc, .int (nI szv), .ref qmb, .int (nI btv), .int (nI dm), .ref qml])), (qmr, .inl (cJ, 1024, .inr (.inl (flX xs n a st (i + 1)))))] := hD
                refine lv_lload hx hb dMo_fill_81 (lv_at hl 4 rfl) ?_
                refine lv_lload_n hx hb dMo_fill_83 rfl (lv_at hl 2 rfl) ?_
                refine lv_ladd hx hb dMo_fill_84 ?_
                refine tp_l (show ((fv a st i) + st) = (fv a st (i + 1)) from rfl) ?_
                refine lv_lstore (lv' := [(6, .long (fv a st (i + 1))), (0, .ref qm), (1, .long a), (3, .long st), (5, .int (nI k)), (8, .int (nI i))]) hx hb dMo_fill_85 hl (by decide) rfl (fun ls hl => ?_)
                refine lv_iinc (v := nI (i + 1)) (lv' := [(8, .int (nI (i + 1))), (6, .long (fv a st (i + 1))), (0, .ref qm), (1, .long a), (3, .long st), (5, .int (nI k))]) hx hb dMo_fill_87 hl (k := 5) rfl (by rw [show (Int32.ofInt 1) = nI 1 from by decide]; exact nI_add _ _) (by decide) rfl (fun ls hl => ?_)
                refine lv_goto (tgt := 46) hx hb dMo_fill_90 (by decide) ?_
                exact ih_lp (i + 1) ((n + i) + 1) (by omega) (by omega) (by omega) _ _ _ (hP.sub [0, 1] rfl) (hD.sub [0, 1] (by decide) rfl) hS (lv_sub hl [2, 3, 4, 5, 1, 0] rfl)
        exact lp (k - 0 + 1) 0 n (Nat.zero_le k) (rfl) (by omega) _ _ _ (hP.sub [0, 1] rfl) (hD.sub [0, 1] (by decide) rfl) hS (lv_sub hl [2, 3, 4, 5, 1, 0] rfl)
      · have c29 : ¬ (n + k) ≤ 1024 := fun h => c29 ((nI_leI (by omega) (by omega)).mpr h)
        exact absurd c29 (by omega)
    · have c12 : ¬ k ≤ 1024 := fun h => c12 ((nI_leI (by omega) (by omega)).mpr h)
      exact absurd c12 (by omega)

set_option maxHeartbeats 4000000 in
set_option maxRecDepth 100000 in
theorem m_fillX1 (l : Launch) (D : va_G) (cJ cB cI cF : ClassId) (qm : Nat) (cd : Int32) (n : Nat) (qmr : Nat) (fm : Int32) (cm : Nat) (qmc : Nat) (szv : Nat) (qmb : Nat) (btv : Nat) (dm : Nat) (qml : Nat) (a : Int64) (st : Int64) (nv : Int32) (sz : Nat) (hbad : ¬ ∃ j, 1 ≤ j ∧ j ≤ 1024 ∧ nv = nI j) : Met l yMo_fill (Cond.code yMo_fill cMo_fill 9 (some .int) :: wsG) ({ frames := 0, cells := 0, slots := 0, locals := 0 }) (va_Pc [.ref qm, .long a, .long st, .int nv] (cfPre D (cfT cJ cB cI cF) [(qm, .inr (9, [.int cd, .int (nI n), .ref qmr, .int fm, .int (nI cm), .ref qmc, .int (nI szv), .ref qmb, .int (nI btv), .int (nI dm), .ref qml]))] sz)) (va_Qi (fun (r : Int32) (u : Unit) => r = nI 0 ∧ True) (fun u t => cfPost D ((fun (u : Unit) => [(qm, .inr (9, [.int (nI 1), .int (nI n), .ref qmr, .int fm, .int (nI cm), .ref qmc, .int (nI szv), .ref qmb, .int (nI btv), .int (nI dm), .ref qml]))]) u) (va_A [(qm, .inr (9, [.int cd, .int (nI n), .ref qmr, .int fm, .int (nI cm), .ref qmc, .int (nI szv), .ref qmb, .int (nI btv), .int (nI dm), .ref qml]))] sz) t) (va_A [(qm, .inr (9, [.int cd, .int (nI n), .ref qmr, .int fm, .int (nI cm), .ref qmc, .int (nI szv), .ref qmb, .int (nI btv), .int (nI dm), .ref qml]))] sz)) 0 0 (va_A [(qm, .inr (9, [.int cd, .int (nI n), .ref qmr, .int fm, .int (nI cm), .ref qmc, .int (nI szv), .ref qmb, .int (nI btv), .int (nI dm), .ref qml]))] sz) := by
  refine met_i (cc := cMo_fill) (maxL := 9) (S := Unit) (D := D) (wO := fun (u : Unit) => [(qm, .inr (9, [.int (nI 1), .int (nI n), .ref qmr, .int fm, .int (nI cm), .ref qmc, .int (nI szv), .ref qmb, .int (nI btv), .int (nI dm), .ref qml]))]) (by decide) (Nat.le_of_ble_eq_true rfl) ?_
  intro p e s m below meth c hx hb hml hown hts hlocks hin hWd A hA hsz hP hK hD hS Q hret ls hl
  have hown : s.vm.findClass "ColumnFormsModel" = some m.cls := hown
  have hl : lv_has ls 9 [(0, .ref qm), (1, .long a), (3, .long st), (5, .int nv)] := hl
  have hP : va_P D vwCl [(qm, .inr (9, [.int cd, .int (nI n), .ref qmr, .int fm, .int (nI cm), .ref qmc, .int (nI szv), .ref qmb, .int (nI btv), .int (nI dm), .ref qml]))] s.heap := hP
  refine lv_aload_n hx hb dMo_fill_0 rfl (lv_at hl 0 rfl) ?_
  refine lv_iload hx hb dMo_fill_1 (lv_at hl 3 rfl) ?_
  refine lv_iconst (v := nI 1) hx hb dMo_fill_3 (by decide) ?_
  refine lv_icmp_lt (tgt := 15) hx hb dMo_fill_4 (by decide) (fun c4 => ?_) (fun c4 => ?_)
  · refine lv_iconst (v := nI 1) hx hb dMo_fill_15 (by decide) ?_
    refine lv_goto (tgt := 37) hx hb dMo_fill_16 (by decide) ?_
    refine va_put (D := D) (ci := 9) (v := .int (nI 1)) (ty := .int) (C := "ColumnFormsModel") (T := TMo) (N := 11) hx hb hts inMo tyMo tyMo_ok nmMo hown hK hP hD hS 0 rfl rfl 0 (by decide) (hts _ tw_589) (fun _ h9 => h9) rfl (by decide +kernel) rfl rfl (Nat.le_of_ble_eq_true rfl) dMo_fill_37 (fun H locs hP hD hS => ?_)
    have hP : va_P D vwCl [(qm, .inr (9, [.int (nI 1), .int (nI n), .ref qmr, .int fm, .int (nI cm), .ref qmc, .int (nI szv), .ref qmb, .int (nI btv), .int (nI dm), .ref qml]))] H := hP
    have hD : va_D A [(qm, .inr (9, [.int (nI 1), .int (nI n), .ref qmr, .int fm, .int (nI cm), .ref qmc, .int (nI szv), .ref qmb, .int (nI btv), .int (nI dm), .ref qml]))] := hD
    refine lv_lload_n hx hb dMo_fill_40 rfl (lv_at hl 1 rfl) ?_
    refine lv_lstore (lv' := [(6, .long a), (0, .ref qm), (1, .long a), (3, .long st), (5, .int nv)]) hx hb dMo_fill_41 hl (by decide) rfl (fun ls hl => ?_)
    refine lv_iconst (v := nI 0) hx hb dMo_fill_43 (by decide) ?_
    refine lv_istore (lv' := [(8, .int (nI 0)), (6, .long a), (0, .ref qm), (1, .long a), (3, .long st), (5, .int nv)]) hx hb dMo_fill_44 hl (by decide) rfl (fun ls hl => ?_)
    refine lv_iload hx hb dMo_fill_46 (lv_at hl 0 rfl) ?_
    refine lv_iload hx hb dMo_fill_48 (lv_at hl 5 rfl) ?_
    refine lv_icmp_ge (tgt := 93) hx hb dMo_fill_50 (by decide) (fun c50 => ?_) (fun c50 => ?_)
    · refine lv_aload_n hx hb dMo_fill_93 rfl (lv_at hl 2 rfl) ?_
      refine va_get (D := D) (ci := 9) (v := .int (nI 1)) (C := "ColumnFormsModel") (T := TMo) (N := 11) hx hb hts inMo hown hK hP 0 rfl rfl 0 (by decide) (hts _ tw_589) (fun _ h9 => h9) rfl dMo_fill_94 ?_
      refine lv_if_le (tgt := 104) hx hb dMo_fill_97 (by decide) (fun c97 => ?_) (fun c97 => ?_)
      · have c97 : 1 ≤ 0 := (nI_leI (b := 0) (by omega) (by omega)).mp c97
        exact absurd c97 (by decide)
      · have c97 : ¬ 1 ≤ 0 := fun h => c97 ((nI_leI (b := 0) (by omega) (by omega)).mpr h)
        refine lv_iconst (v := nI 0) hx hb dMo_fill_100 (by decide) ?_
        refine lv_goto (tgt := 108) hx hb dMo_fill_101 (by decide) ?_
        exact hret (nI 0) () _ _ _ _ _ _ ⟨rfl, trivial⟩ (hP.sub [0] rfl) (hD.sub [0] (by decide) rfl) hS (Nat.le_of_ble_eq_true rfl) (Nat.le_of_ble_eq_true rfl) dMo_fill_108
    · refine lv_aload_n hx hb dMo_fill_53 rfl (lv_at hl 2 rfl) ?_
      refine va_get (D := D) (ci := 9) (v := .int (nI 1)) (C := "ColumnFormsModel") (T := TMo) (N := 11) hx hb hts inMo hown hK hP 0 rfl rfl 0 (by decide) (hts _ tw_589) (fun _ h9 => h9) rfl dMo_fill_54 ?_
      refine lv_if_ne (tgt := 93) hx hb dMo_fill_57 (by decide) (fun c57 => ?_) (fun c57 => ?_)
      · have c57 : ¬ 1 = 0 := fun h => c57 ((nI_eq (b := 0) (by omega) (by omega)).mpr h)
        refine lv_aload_n hx hb dMo_fill_93 rfl (lv_at hl 2 rfl) ?_
        refine va_get (D := D) (ci := 9) (v := .int (nI 1)) (C := "ColumnFormsModel") (T := TMo) (N := 11) hx hb hts inMo hown hK hP 0 rfl rfl 0 (by decide) (hts _ tw_589) (fun _ h9 => h9) rfl dMo_fill_94 ?_
        refine lv_if_le (tgt := 104) hx hb dMo_fill_97 (by decide) (fun c97 => ?_) (fun c97 => ?_)
        · have c97 : 1 ≤ 0 := (nI_leI (b := 0) (by omega) (by omega)).mp c97
          exact absurd c97 (by decide)
        · have c97 : ¬ 1 ≤ 0 := fun h => c97 ((nI_leI (b := 0) (by omega) (by omega)).mpr h)
          refine lv_iconst (v := nI 0) hx hb dMo_fill_100 (by decide) ?_
          refine lv_goto (tgt := 108) hx hb dMo_fill_101 (by decide) ?_
          exact hret (nI 0) () _ _ _ _ _ _ ⟨rfl, trivial⟩ (hP.sub [0] rfl) (hD.sub [0] (by decide) rfl) hS (Nat.le_of_ble_eq_true rfl) (Nat.le_of_ble_eq_true rfl) dMo_fill_108
      · have c57 : 1 = 0 := (nI_eq (b := 0) (by omega) (by omega)).mp c57
        exact absurd c57 (by decide)
  · refine lv_iload hx hb dMo_fill_7 (lv_at hl 3 rfl) ?_
    refine lv_sipush (v := nI 1024) hx hb dMo_fill_9 (by decide) ?_
    refine lv_icmp_le (tgt := 19) hx hb dMo_fill_12 (by decide) (fun c12 => ?_) (fun c12 => ?_)
    · exact absurd (i_btw c4 c12 (by omega)) hbad
    · refine lv_iconst (v := nI 1) hx hb dMo_fill_15 (by decide) ?_
      refine lv_goto (tgt := 37) hx hb dMo_fill_16 (by decide) ?_
      refine va_put (D := D) (ci := 9) (v := .int (nI 1)) (ty := .int) (C := "ColumnFormsModel") (T := TMo) (N := 11) hx hb hts inMo tyMo tyMo_ok nmMo hown hK hP hD hS 0 rfl rfl 0 (by decide) (hts _ tw_589) (fun _ h9 => h9) rfl (by decide +kernel) rfl rfl (Nat.le_of_ble_eq_true rfl) dMo_fill_37 (fun H locs hP hD hS => ?_)
      have hP : va_P D vwCl [(qm, .inr (9, [.int (nI 1), .int (nI n), .ref qmr, .int fm, .int (nI cm), .ref qmc, .int (nI szv), .ref qmb, .int (nI btv), .int (nI dm), .ref qml]))] H := hP
      have hD : va_D A [(qm, .inr (9, [.int (nI 1), .int (nI n), .ref qmr, .int fm, .int (nI cm), .ref qmc, .int (nI szv), .ref qmb, .int (nI btv), .int (nI dm), .ref qml]))] := hD
      refine lv_lload_n hx hb dMo_fill_40 rfl (lv_at hl 1 rfl) ?_
      refine lv_lstore (lv' := [(6, .long a), (0, .ref qm), (1, .long a), (3, .long st), (5, .int nv)]) hx hb dMo_fill_41 hl (by decide) rfl (fun ls hl => ?_)
      refine lv_iconst (v := nI 0) hx hb dMo_fill_43 (by decide) ?_
      refine lv_istore (lv' := [(8, .int (nI 0)), (6, .long a), (0, .ref qm), (1, .long a), (3, .long st), (5, .int nv)]) hx hb dMo_fill_44 hl (by decide) rfl (fun ls hl => ?_)
      refine lv_iload hx hb dMo_fill_46 (lv_at hl 0 rfl) ?_
      refine lv_iload hx hb dMo_fill_48 (lv_at hl 5 rfl) ?_
      refine lv_icmp_ge (tgt := 93) hx hb dMo_fill_50 (by decide) (fun c50 => ?_) (fun c50 => ?_)
      · refine lv_aload_n hx hb dMo_fill_93 rfl (lv_at hl 2 rfl) ?_
        refine va_get (D := D) (ci := 9) (v := .int (nI 1)) (C := "ColumnFormsModel") (T := TMo) (N := 11) hx hb hts inMo hown hK hP 0 rfl rfl 0 (by decide) (hts _ tw_589) (fun _ h9 => h9) rfl dMo_fill_94 ?_
        refine lv_if_le (tgt := 104) hx hb dMo_fill_97 (by decide) (fun c97 => ?_) (fun c97 => ?_)
        · have c97 : 1 ≤ 0 := (nI_leI (b := 0) (by omega) (by omega)).mp c97
          exact absurd c97 (by decide)
        · have c97 : ¬ 1 ≤ 0 := fun h => c97 ((nI_leI (b := 0) (by omega) (by omega)).mpr h)
          refine lv_iconst (v := nI 0) hx hb dMo_fill_100 (by decide) ?_
          refine lv_goto (tgt := 108) hx hb dMo_fill_101 (by decide) ?_
          exact hret (nI 0) () _ _ _ _ _ _ ⟨rfl, trivial⟩ (hP.sub [0] rfl) (hD.sub [0] (by decide) rfl) hS (Nat.le_of_ble_eq_true rfl) (Nat.le_of_ble_eq_true rfl) dMo_fill_108
      · refine lv_aload_n hx hb dMo_fill_53 rfl (lv_at hl 2 rfl) ?_
        refine va_get (D := D) (ci := 9) (v := .int (nI 1)) (C := "ColumnFormsModel") (T := TMo) (N := 11) hx hb hts inMo hown hK hP 0 rfl rfl 0 (by decide) (hts _ tw_589) (fun _ h9 => h9) rfl dMo_fill_54 ?_
        refine lv_if_ne (tgt := 93) hx hb dMo_fill_57 (by decide) (fun c57 => ?_) (fun c57 => ?_)
        · have c57 : ¬ 1 = 0 := fun h => c57 ((nI_eq (b := 0) (by omega) (by omega)).mpr h)
          refine lv_aload_n hx hb dMo_fill_93 rfl (lv_at hl 2 rfl) ?_
          refine va_get (D := D) (ci := 9) (v := .int (nI 1)) (C := "ColumnFormsModel") (T := TMo) (N := 11) hx hb hts inMo hown hK hP 0 rfl rfl 0 (by decide) (hts _ tw_589) (fun _ h9 => h9) rfl dMo_fill_94 ?_
          refine lv_if_le (tgt := 104) hx hb dMo_fill_97 (by decide) (fun c97 => ?_) (fun c97 => ?_)
          · have c97 : 1 ≤ 0 := (nI_leI (b := 0) (by omega) (by omega)).mp c97
            exact absurd c97 (by decide)
          · have c97 : ¬ 1 ≤ 0 := fun h => c97 ((nI_leI (b := 0) (by omega) (by omega)).mpr h)
            refine lv_iconst (v := nI 0) hx hb dMo_fill_100 (by decide) ?_
            refine lv_goto (tgt := 108) hx hb dMo_fill_101 (by decide) ?_
            exact hret (nI 0) () _ _ _ _ _ _ ⟨rfl, trivial⟩ (hP.sub [0] rfl) (hD.sub [0] (by decide) rfl) hS (Nat.le_of_ble_eq_true rfl) (Nat.le_of_ble_eq_true rfl) dMo_fill_108
        · have c57 : 1 = 0 := (nI_eq (b := 0) (by omega) (by omega)).mp c57
          exact absurd c57 (by decide)

set_option maxHeartbeats 4000000 in
set_option maxRecDepth 100000 in
theorem m_fillX2 (l : Launch) (D : va_G) (cJ cB cI cF : ClassId) (qm : Nat) (cd : Int32) (n : Nat) (qmr : Nat) (fm : Int32) (cm : Nat) (qmc : Nat) (szv : Nat) (qmb : Nat) (btv : Nat) (dm : Nat) (qml : Nat) (a : Int64) (st : Int64) (k : Nat) (sz : Nat) (hn : n ≤ 1024) (hk1 : 1 ≤ k) (hk2 : k ≤ 1024) (hk3 : 1024 < n + k) : Met l yMo_fill (Cond.code yMo_fill cMo_fill 9 (some .int) :: wsG) ({ frames := 0, cells := 0, slots := 0, locals := 0 }) (va_Pc [.ref qm, .long a, .long st, .int (nI k)] (cfPre D (cfT cJ cB cI cF) [(qm, .inr (9, [.int cd, .int (nI n), .ref qmr, .int fm, .int (nI cm), .ref qmc, .int (nI szv), .ref qmb, .int (nI btv), .int (nI dm), .ref qml]))] sz)) (va_Qi (fun (r : Int32) (u : Unit) => r = nI 0 ∧ True) (fun u t => cfPost D ((fun (u : Unit) => [(qm, .inr (9, [.int (nI 2), .int (nI n), .ref qmr, .int fm, .int (nI cm), .ref qmc, .int (nI szv), .ref qmb, .int (nI btv), .int (nI dm), .ref qml]))]) u) (va_A [(qm, .inr (9, [.int cd, .int (nI n), .ref qmr, .int fm, .int (nI cm), .ref qmc, .int (nI szv), .ref qmb, .int (nI btv), .int (nI dm), .ref qml]))] sz) t) (va_A [(qm, .inr (9, [.int cd, .int (nI n), .ref qmr, .int fm, .int (nI cm), .ref qmc, .int (nI szv), .ref qmb, .int (nI btv), .int (nI dm), .ref qml]))] sz)) 0 0 (va_A [(qm, .inr (9, [.int cd, .int (nI n), .ref qmr, .int fm, .int (nI cm), .ref qmc, .int (nI szv), .ref qmb, .int (nI btv), .int (nI dm), .ref qml]))] sz) := by
  refine met_i (cc := cMo_fill) (maxL := 9) (S := Unit) (D := D) (wO := fun (u : Unit) => [(qm, .inr (9, [.int (nI 2), .int (nI n), .ref qmr, .int fm, .int (nI cm), .ref qmc, .int (nI szv), .ref qmb, .int (nI btv), .int (nI dm), .ref qml]))]) (by decide) (Nat.le_of_ble_eq_true rfl) ?_
  intro p e s m below meth c hx hb hml hown hts hlocks hin hWd A hA hsz hP hK hD hS Q hret ls hl
  have hown : s.vm.findClass "ColumnFormsModel" = some m.cls := hown
  have hl : lv_has ls 9 [(0, .ref qm), (1, .long a), (3, .long st), (5, .int (nI k))] := hl
  have hP : va_P D vwCl [(qm, .inr (9, [.int cd, .int (nI n), .ref qmr, .int fm, .int (nI cm), .ref qmc, .int (nI szv), .ref qmb, .int (nI btv), .int (nI dm), .ref qml]))] s.heap := hP
  refine lv_aload_n hx hb dMo_fill_0 rfl (lv_at hl 0 rfl) ?_
  refine lv_iload hx hb dMo_fill_1 (lv_at hl 3 rfl) ?_
  refine lv_iconst (v := nI 1) hx hb dMo_fill_3 (by decide) ?_
  refine lv_icmp_lt (tgt := 15) hx hb dMo_fill_4 (by decide) (fun c4 => ?_) (fun c4 => ?_)
  · have c4 : k < 1 := (nI_ltI (by omega) (by omega)).mp c4
    exact absurd c4 (by omega)
  · have c4 : ¬ k < 1 := fun h => c4 ((nI_ltI (by omega) (by omega)).mpr h)
    refine lv_iload hx hb dMo_fill_7 (lv_at hl 3 rfl) ?_
    refine lv_sipush (v := nI 1024) hx hb dMo_fill_9 (by decide) ?_
    refine lv_icmp_le (tgt := 19) hx hb dMo_fill_12 (by decide) (fun c12 => ?_) (fun c12 => ?_)
    · have c12 : k ≤ 1024 := (nI_leI (by omega) (by omega)).mp c12
      refine lv_aload_n hx hb dMo_fill_19 rfl (lv_at hl 0 rfl) ?_
      refine va_get (D := D) (ci := 9) (v := .int (nI n)) (C := "ColumnFormsModel") (T := TMo) (N := 11) hx hb hts inMo hown hK hP 0 rfl rfl 1 (by decide) (hts _ tw_590) (fun _ h9 => h9) rfl dMo_fill_20 ?_
      refine lv_iload hx hb dMo_fill_23 (lv_at hl 3 rfl) ?_
      refine lv_iadd hx hb dMo_fill_25 ?_
      refine tp_i (show ((nI n) + (nI k)) = (nI (n + k)) from nI_add _ _) ?_
      refine lv_sipush (v := nI 1024) hx hb dMo_fill_26 (by decide) ?_
      refine lv_icmp_le (tgt := 36) hx hb dMo_fill_29 (by decide) (fun c29 => ?_) (fun c29 => ?_)
      · have c29 : (n + k) ≤ 1024 := (nI_leI (by omega) (by omega)).mp c29
        exact absurd c29 (by omega)
      · have c29 : ¬ (n + k) ≤ 1024 := fun h => c29 ((nI_leI (by omega) (by omega)).mpr h)
        refine lv_iconst (v := nI 2) hx hb dMo_fill_32 (by decide) ?_
        refine lv_goto (tgt := 37) hx hb dMo_fill_33 (by decide) ?_
        refine va_put (D := D) (ci := 9) (v := .int (nI 2)) (ty := .int) (C := "ColumnFormsModel") (T := TMo) (N := 11) hx hb hts inMo tyMo tyMo_ok nmMo hown hK hP hD hS 0 rfl rfl 0 (by decide) (hts _ tw_589) (fun _ h9 => h9) rfl (by decide +kernel) rfl rfl (Nat.le_of_ble_eq_true rfl) dMo_fill_37 (fun H locs hP hD hS => ?_)
        have hP : va_P D vwCl [(qm, .inr (9, [.int (nI 2), .int (nI n), .ref qmr, .int fm, .int (nI cm), .ref qmc, .int (nI szv), .ref qmb, .int (nI btv), .int (nI dm), .ref qml]))] H := hP
        have hD : va_D A [(qm, .inr (9, [.int (nI 2), .int (nI n), .ref qmr, .int fm, .int (nI cm), .ref qmc, .int (nI szv), .ref qmb, .int (nI btv), .int (nI dm), .ref qml]))] := hD
        refine lv_lload_n hx hb dMo_fill_40 rfl (lv_at hl 1 rfl) ?_
        refine lv_lstore (lv' := [(6, .long a), (0, .ref qm), (1, .long a), (3, .long st), (5, .int (nI k))]) hx hb dMo_fill_41 hl (by decide) rfl (fun ls hl => ?_)
        refine lv_iconst (v := nI 0) hx hb dMo_fill_43 (by decide) ?_
        refine lv_istore (lv' := [(8, .int (nI 0)), (6, .long a), (0, .ref qm), (1, .long a), (3, .long st), (5, .int (nI k))]) hx hb dMo_fill_44 hl (by decide) rfl (fun ls hl => ?_)
        refine lv_iload hx hb dMo_fill_46 (lv_at hl 0 rfl) ?_
        refine lv_iload hx hb dMo_fill_48 (lv_at hl 5 rfl) ?_
        refine lv_icmp_ge (tgt := 93) hx hb dMo_fill_50 (by decide) (fun c50 => ?_) (fun c50 => ?_)
        · have c50 : k ≤ 0 := (nI_leI (by omega) (by omega)).mp c50
          refine lv_aload_n hx hb dMo_fill_93 rfl (lv_at hl 2 rfl) ?_
          refine va_get (D := D) (ci := 9) (v := .int (nI 2)) (C := "ColumnFormsModel") (T := TMo) (N := 11) hx hb hts inMo hown hK hP 0 rfl rfl 0 (by decide) (hts _ tw_589) (fun _ h9 => h9) rfl dMo_fill_94 ?_
          refine lv_if_le (tgt := 104) hx hb dMo_fill_97 (by decide) (fun c97 => ?_) (fun c97 => ?_)
          · have c97 : 2 ≤ 0 := (nI_leI (b := 0) (by omega) (by omega)).mp c97
            exact absurd c97 (by decide)
          · have c97 : ¬ 2 ≤ 0 := fun h => c97 ((nI_leI (b := 0) (by omega) (by omega)).mpr h)
            refine lv_iconst (v := nI 0) hx hb dMo_fill_100 (by decide) ?_
            refine lv_goto (tgt := 108) hx hb dMo_fill_101 (by decide) ?_
            exact hret (nI 0) () _ _ _ _ _ _ ⟨rfl, trivial⟩ (hP.sub [0] rfl) (hD.sub [0] (by decide) rfl) hS (Nat.le_of_ble_eq_true rfl) (Nat.le_of_ble_eq_true rfl) dMo_fill_108
        · have c50 : ¬ k ≤ 0 := fun h => c50 ((nI_leI (by omega) (by omega)).mpr h)
          refine lv_aload_n hx hb dMo_fill_53 rfl (lv_at hl 2 rfl) ?_
          refine va_get (D := D) (ci := 9) (v := .int (nI 2)) (C := "ColumnFormsModel") (T := TMo) (N := 11) hx hb hts inMo hown hK hP 0 rfl rfl 0 (by decide) (hts _ tw_589) (fun _ h9 => h9) rfl dMo_fill_54 ?_
          refine lv_if_ne (tgt := 93) hx hb dMo_fill_57 (by decide) (fun c57 => ?_) (fun c57 => ?_)
          · have c57 : ¬ 2 = 0 := fun h => c57 ((nI_eq (b := 0) (by omega) (by omega)).mpr h)
            refine lv_aload_n hx hb dMo_fill_93 rfl (lv_at hl 2 rfl) ?_
            refine va_get (D := D) (ci := 9) (v := .int (nI 2)) (C := "ColumnFormsModel") (T := TMo) (N := 11) hx hb hts inMo hown hK hP 0 rfl rfl 0 (by decide) (hts _ tw_589) (fun _ h9 => h9) rfl dMo_fill_94 ?_
            refine lv_if_le (tgt := 104) hx hb dMo_fill_97 (by decide) (fun c97 => ?_) (fun c97 => ?_)
            · have c97 : 2 ≤ 0 := (nI_leI (b := 0) (by omega) (by omega)).mp c97
              exact absurd c97 (by decide)
            · have c97 : ¬ 2 ≤ 0 := fun h => c97 ((nI_leI (b := 0) (by omega) (by omega)).mpr h)
              refine lv_iconst (v := nI 0) hx hb dMo_fill_100 (by decide) ?_
              refine lv_goto (tgt := 108) hx hb dMo_fill_101 (by decide) ?_
              exact hret (nI 0) () _ _ _ _ _ _ ⟨rfl, trivial⟩ (hP.sub [0] rfl) (hD.sub [0] (by decide) rfl) hS (Nat.le_of_ble_eq_true rfl) (Nat.le_of_ble_eq_true rfl) dMo_fill_108
          · have c57 : 2 = 0 := (nI_eq (b := 0) (by omega) (by omega)).mp c57
            exact absurd c57 (by decide)
    · have c12 : ¬ k ≤ 1024 := fun h => c12 ((nI_leI (by omega) (by omega)).mpr h)
      exact absurd c12 (by omega)

set_option maxHeartbeats 4000000 in
set_option maxRecDepth 100000 in
theorem m_form (l : Launch) (D : va_G) (cJ cB cI cF : ClassId) (qm : Nat) (cd : Int32) (n : Nat) (qmr : Nat) (fm : Int32) (cm : Nat) (qmc : Nat) (szv : Nat) (qmb : Nat) (btv : Nat) (dm : Nat) (qml : Nat) (sz : Nat) : Met l yMo_form (Cond.code yMo_form cMo_form 1 (some .int) :: wsG) ({ frames := 0, cells := 0, slots := 0, locals := 0 }) (va_Pc [.ref qm] (cfPre D (cfT cJ cB cI cF) [(qm, .inr (9, [.int cd, .int (nI n), .ref qmr, .int fm, .int (nI cm), .ref qmc, .int (nI szv), .ref qmb, .int (nI btv), .int (nI dm), .ref qml]))] sz)) (va_Qi (fun (r : Int32) (u : Unit) => r = fm ∧ True) (fun u t => cfPost D ((fun (u : Unit) => [(qm, .inr (9, [.int (nI 0), .int (nI n), .ref qmr, .int fm, .int (nI cm), .ref qmc, .int (nI szv), .ref qmb, .int (nI btv), .int (nI dm), .ref qml]))]) u) (va_A [(qm, .inr (9, [.int cd, .int (nI n), .ref qmr, .int fm, .int (nI cm), .ref qmc, .int (nI szv), .ref qmb, .int (nI btv), .int (nI dm), .ref qml]))] sz) t) (va_A [(qm, .inr (9, [.int cd, .int (nI n), .ref qmr, .int fm, .int (nI cm), .ref qmc, .int (nI szv), .ref qmb, .int (nI btv), .int (nI dm), .ref qml]))] sz)) 0 0 (va_A [(qm, .inr (9, [.int cd, .int (nI n), .ref qmr, .int fm, .int (nI cm), .ref qmc, .int (nI szv), .ref qmb, .int (nI btv), .int (nI dm), .ref qml]))] sz) := by
  refine met_i (cc := cMo_form) (maxL := 1) (S := Unit) (D := D) (wO := fun (u : Unit) => [(qm, .inr (9, [.int (nI 0), .int (nI n), .ref qmr, .int fm, .int (nI cm), .ref qmc, .int (nI szv), .ref qmb, .int (nI btv), .int (nI dm), .ref qml]))]) (by decide) (Nat.le_of_ble_eq_true rfl) ?_
  intro p e s m below meth c hx hb hml hown hts hlocks hin hWd A hA hsz hP hK hD hS Q hret ls hl
  have hown : s.vm.findClass "ColumnFormsModel" = some m.cls := hown
  have hl : lv_has ls 1 [(0, .ref qm)] := hl
  have hP : va_P D vwCl [(qm, .inr (9, [.int cd, .int (nI n), .ref qmr, .int fm, .int (nI cm), .ref qmc, .int (nI szv), .ref qmb, .int (nI btv), .int (nI dm), .ref qml]))] s.heap := hP
  refine lv_aload_n hx hb dMo_form_0 rfl (lv_at hl 0 rfl) ?_
  refine lv_iconst (v := nI 0) hx hb dMo_form_1 (by decide) ?_
  refine va_put (D := D) (ci := 9) (v := .int (nI 0)) (ty := .int) (C := "ColumnFormsModel") (T := TMo) (N := 11) hx hb hts inMo tyMo tyMo_ok nmMo hown hK hP hD hS 0 rfl rfl 0 (by decide) (hts _ tw_589) (fun _ h9 => h9) rfl (by decide +kernel) rfl rfl (Nat.le_of_ble_eq_true rfl) dMo_form_2 (fun H locs hP hD hS => ?_)
  have hP : va_P D vwCl [(qm, .inr (9, [.int (nI 0), .int (nI n), .ref qmr, .int fm, .int (nI cm), .ref qmc, .int (nI szv), .ref qmb, .int (nI btv), .int (nI dm), .ref qml]))] H := hP
  have hD : va_D A [(qm, .inr (9, [.int (nI 0), .int (nI n), .ref qmr, .int fm, .int (nI cm), .ref qmc, .int (nI szv), .ref qmb, .int (nI btv), .int (nI dm), .ref qml]))] := hD
  refine lv_aload_n hx hb dMo_form_5 rfl (lv_at hl 0 rfl) ?_
  refine va_get (D := D) (ci := 9) (v := .int fm) (C := "ColumnFormsModel") (T := TMo) (N := 11) hx hb hts inMo hown hK hP 0 rfl rfl 3 (by decide) (hts _ tw_592) (fun _ h9 => h9) rfl dMo_form_6 ?_
  exact hret fm () _ _ _ _ _ _ ⟨rfl, trivial⟩ (hP.sub [0] rfl) (hD.sub [0] (by decide) rfl) hS (Nat.le_of_ble_eq_true rfl) (Nat.le_of_ble_eq_true rfl) dMo_form_9

set_option maxHeartbeats 4000000 in
set_option maxRecDepth 100000 in
theorem m_size (l : Launch) (D : va_G) (cJ cB cI cF : ClassId) (qm : Nat) (cd : Int32) (n : Nat) (qmr : Nat) (fm : Int32) (cm : Nat) (qmc : Nat) (szv : Nat) (qmb : Nat) (btv : Nat) (dm : Nat) (qml : Nat) (sz : Nat) (hf : ¬ fm < 0) : Met l yMo_size (Cond.code yMo_size cMo_size 1 (some .int) :: wsG) ({ frames := 0, cells := 0, slots := 0, locals := 0 }) (va_Pc [.ref qm] (cfPre D (cfT cJ cB cI cF) [(qm, .inr (9, [.int cd, .int (nI n), .ref qmr, .int fm, .int (nI cm), .ref qmc, .int (nI szv), .ref qmb, .int (nI btv), .int (nI dm), .ref qml]))] sz)) (va_Qi (fun (r : Int32) (u : Unit) => r = nI szv ∧ True) (fun u t => cfPost D ((fun (u : Unit) => [(qm, .inr (9, [.int (nI 0), .int (nI n), .ref qmr, .int fm, .int (nI cm), .ref qmc, .int (nI szv), .ref qmb, .int (nI btv), .int (nI dm), .ref qml]))]) u) (va_A [(qm, .inr (9, [.int cd, .int (nI n), .ref qmr, .int fm, .int (nI cm), .ref qmc, .int (nI szv), .ref qmb, .int (nI btv), .int (nI dm), .ref qml]))] sz) t) (va_A [(qm, .inr (9, [.int cd, .int (nI n), .ref qmr, .int fm, .int (nI cm), .ref qmc, .int (nI szv), .ref qmb, .int (nI btv), .int (nI dm), .ref qml]))] sz)) 0 0 (va_A [(qm, .inr (9, [.int cd, .int (nI n), .ref qmr, .int fm, .int (nI cm), .ref qmc, .int (nI szv), .ref qmb, .int (nI btv), .int (nI dm), .ref qml]))] sz) := by
  refine met_i (cc := cMo_size) (maxL := 1) (S := Unit) (D := D) (wO := fun (u : Unit) => [(qm, .inr (9, [.int (nI 0), .int (nI n), .ref qmr, .int fm, .int (nI cm), .ref qmc, .int (nI szv), .ref qmb, .int (nI btv), .int (nI dm), .ref qml]))]) (by decide) (Nat.le_of_ble_eq_true rfl) ?_
  intro p e s m below meth c hx hb hml hown hts hlocks hin hWd A hA hsz hP hK hD hS Q hret ls hl
  have hown : s.vm.findClass "ColumnFormsModel" = some m.cls := hown
  have hl : lv_has ls 1 [(0, .ref qm)] := hl
  have hP : va_P D vwCl [(qm, .inr (9, [.int cd, .int (nI n), .ref qmr, .int fm, .int (nI cm), .ref qmc, .int (nI szv), .ref qmb, .int (nI btv), .int (nI dm), .ref qml]))] s.heap := hP
  refine lv_aload_n hx hb dMo_size_0 rfl (lv_at hl 0 rfl) ?_
  refine lv_iconst (v := nI 0) hx hb dMo_size_1 (by decide) ?_
  refine va_put (D := D) (ci := 9) (v := .int (nI 0)) (ty := .int) (C := "ColumnFormsModel") (T := TMo) (N := 11) hx hb hts inMo tyMo tyMo_ok nmMo hown hK hP hD hS 0 rfl rfl 0 (by decide) (hts _ tw_589) (fun _ h9 => h9) rfl (by decide +kernel) rfl rfl (Nat.le_of_ble_eq_true rfl) dMo_size_2 (fun H locs hP hD hS => ?_)
  have hP : va_P D vwCl [(qm, .inr (9, [.int (nI 0), .int (nI n), .ref qmr, .int fm, .int (nI cm), .ref qmc, .int (nI szv), .ref qmb, .int (nI btv), .int (nI dm), .ref qml]))] H := hP
  have hD : va_D A [(qm, .inr (9, [.int (nI 0), .int (nI n), .ref qmr, .int fm, .int (nI cm), .ref qmc, .int (nI szv), .ref qmb, .int (nI btv), .int (nI dm), .ref qml]))] := hD
  refine lv_aload_n hx hb dMo_size_5 rfl (lv_at hl 0 rfl) ?_
  refine va_get (D := D) (ci := 9) (v := .int fm) (C := "ColumnFormsModel") (T := TMo) (N := 11) hx hb hts inMo hown hK hP 0 rfl rfl 3 (by decide) (hts _ tw_592) (fun _ h9 => h9) rfl dMo_size_6 ?_
  refine lv_if_ge (tgt := 16) hx hb dMo_size_9 (by decide) (fun c9 => ?_) (fun c9 => ?_)
  · refine lv_aload_n hx hb dMo_size_16 rfl (lv_at hl 0 rfl) ?_
    refine va_get (D := D) (ci := 9) (v := .int (nI szv)) (C := "ColumnFormsModel") (T := TMo) (N := 11) hx hb hts inMo hown hK hP 0 rfl rfl 6 (by decide) (hts _ tw_595) (fun _ h9 => h9) rfl dMo_size_17 ?_
    exact hret (nI szv) () _ _ _ _ _ _ ⟨rfl, trivial⟩ (hP.sub [0] rfl) (hD.sub [0] (by decide) rfl) hS (Nat.le_of_ble_eq_true rfl) (Nat.le_of_ble_eq_true rfl) dMo_size_20
  · exact absurd (Int32.not_lt.mp hf) c9

set_option maxHeartbeats 4000000 in
set_option maxRecDepth 100000 in
theorem m_sizeX (l : Launch) (D : va_G) (cJ cB cI cF : ClassId) (qm : Nat) (cd : Int32) (n : Nat) (qmr : Nat) (fm : Int32) (cm : Nat) (qmc : Nat) (szv : Nat) (qmb : Nat) (btv : Nat) (dm : Nat) (qml : Nat) (sz : Nat) (hf : fm = -1) : Met l yMo_size (Cond.code yMo_size cMo_size 1 (some .int) :: wsG) ({ frames := 0, cells := 0, slots := 0, locals := 0 }) (va_Pc [.ref qm] (cfPre D (cfT cJ cB cI cF) [(qm, .inr (9, [.int cd, .int (nI n), .ref qmr, .int fm, .int (nI cm), .ref qmc, .int (nI szv), .ref qmb, .int (nI btv), .int (nI dm), .ref qml]))] sz)) (va_Qi (fun (r : Int32) (u : Unit) => r = nI 0 ∧ True) (fun u t => cfPost D ((fun (u : Unit) => [(qm, .inr (9, [.int (nI 0), .int (nI n), .ref qmr, .int fm, .int (nI cm), .ref qmc, .int (nI szv), .ref qmb, .int (nI btv), .int (nI dm), .ref qml]))]) u) (va_A [(qm, .inr (9, [.int cd, .int (nI n), .ref qmr, .int fm, .int (nI cm), .ref qmc, .int (nI szv), .ref qmb, .int (nI btv), .int (nI dm), .ref qml]))] sz) t) (va_A [(qm, .inr (9, [.int cd, .int (nI n), .ref qmr, .int fm, .int (nI cm), .ref qmc, .int (nI szv), .ref qmb, .int (nI btv), .int (nI dm), .ref qml]))] sz)) 0 0 (va_A [(qm, .inr (9, [.int cd, .int (nI n), .ref qmr, .int fm, .int (nI cm), .ref qmc, .int (nI szv), .ref qmb, .int (nI btv), .int (nI dm), .ref qml]))] sz) := by
  refine met_i (cc := cMo_size) (maxL := 1) (S := Unit) (D := D) (wO := fun (u : Unit) => [(qm, .inr (9, [.int (nI 0), .int (nI n), .ref qmr, .int fm, .int (nI cm), .ref qmc, .int (nI szv), .ref qmb, .int (nI btv), .int (nI dm), .ref qml]))]) (by decide) (Nat.le_of_ble_eq_true rfl) ?_
  intro p e s m below meth c hx hb hml hown hts hlocks hin hWd A hA hsz hP hK hD hS Q hret ls hl
  have hown : s.vm.findClass "ColumnFormsModel" = some m.cls := hown
  have hl : lv_has ls 1 [(0, .ref qm)] := hl
  have hP : va_P D vwCl [(qm, .inr (9, [.int cd, .int (nI n), .ref qmr, .int fm, .int (nI cm), .ref qmc, .int (nI szv), .ref qmb, .int (nI btv), .int (nI dm), .ref qml]))] s.heap := hP
  refine lv_aload_n hx hb dMo_size_0 rfl (lv_at hl 0 rfl) ?_
  refine lv_iconst (v := nI 0) hx hb dMo_size_1 (by decide) ?_
  refine va_put (D := D) (ci := 9) (v := .int (nI 0)) (ty := .int) (C := "ColumnFormsModel") (T := TMo) (N := 11) hx hb hts inMo tyMo tyMo_ok nmMo hown hK hP hD hS 0 rfl rfl 0 (by decide) (hts _ tw_589) (fun _ h9 => h9) rfl (by decide +kernel) rfl rfl (Nat.le_of_ble_eq_true rfl) dMo_size_2 (fun H locs hP hD hS => ?_)
  have hP : va_P D vwCl [(qm, .inr (9, [.int (nI 0), .int (nI n), .ref qmr, .int fm, .int (nI cm), .ref qmc, .int (nI szv), .ref qmb, .int (nI btv), .int (nI dm), .ref qml]))] H := hP
  have hD : va_D A [(qm, .inr (9, [.int (nI 0), .int (nI n), .ref qmr, .int fm, .int (nI cm), .ref qmc, .int (nI szv), .ref qmb, .int (nI btv), .int (nI dm), .ref qml]))] := hD
  refine lv_aload_n hx hb dMo_size_5 rfl (lv_at hl 0 rfl) ?_
  refine va_get (D := D) (ci := 9) (v := .int fm) (C := "ColumnFormsModel") (T := TMo) (N := 11) hx hb hts inMo hown hK hP 0 rfl rfl 3 (by decide) (hts _ tw_592) (fun _ h9 => h9) rfl dMo_size_6 ?_
  refine lv_if_ge (tgt := 16) hx hb dMo_size_9 (by decide) (fun c9 => ?_) (fun c9 => ?_)
  · exact absurd c9 (by rw [hf]; decide)
  · refine lv_iconst (v := nI 0) hx hb dMo_size_12 (by decide) ?_
    refine lv_goto (tgt := 20) hx hb dMo_size_13 (by decide) ?_
    exact hret (nI 0) () _ _ _ _ _ _ ⟨rfl, trivial⟩ (hP.sub [0] rfl) (hD.sub [0] (by decide) rfl) hS (Nat.le_of_ble_eq_true rfl) (Nat.le_of_ble_eq_true rfl) dMo_size_20

set_option maxHeartbeats 4000000 in
set_option maxRecDepth 100000 in
theorem m_byteAt (l : Launch) (D : va_G) (cJ cB cI cF : ClassId) (qm : Nat) (cd : Int32) (n : Nat) (qmr : Nat) (fm : Int32) (cm : Nat) (qmc : Nat) (szv : Nat) (qmb : Nat) (btv : Nat) (dm : Nat) (qml : Nat) (mm : Nat → Int32) (i : Nat) (sz : Nat) (hf : ¬ fm < 0) (hs : szv ≤ 10400) (hi1 : i < szv) : Met l yMo_byteAt (Cond.code yMo_byteAt cMo_byteAt 2 (some .int) :: wsG) ({ frames := 0, cells := 0, slots := 0, locals := 0 }) (va_Pc [.ref qm, .int (nI i)] (cfPre D (cfT cJ cB cI cF) [(qm, .inr (9, [.int cd, .int (nI n), .ref qmr, .int fm, .int (nI cm), .ref qmc, .int (nI szv), .ref qmb, .int (nI btv), .int (nI dm), .ref qml])), (qmb, .inl (cI, 10400, .inl mm))] sz)) (va_Qi (fun (r : Int32) (u : Unit) => r = mm i ∧ True) (fun u t => cfPost D ((fun (u : Unit) => [(qm, .inr (9, [.int (nI 0), .int (nI n), .ref qmr, .int fm, .int (nI cm), .ref qmc, .int (nI szv), .ref qmb, .int (nI btv), .int (nI dm), .ref qml])), (qmb, .inl (cI, 10400, .inl mm))]) u) (va_A [(qm, .inr (9, [.int cd, .int (nI n), .ref qmr, .int fm, .int (nI cm), .ref qmc, .int (nI szv), .ref qmb, .int (nI btv), .int (nI dm), .ref qml])), (qmb, .inl (cI, 10400, .inl mm))] sz) t) (va_A [(qm, .inr (9, [.int cd, .int (nI n), .ref qmr, .int fm, .int (nI cm), .ref qmc, .int (nI szv), .ref qmb, .int (nI btv), .int (nI dm), .ref qml])), (qmb, .inl (cI, 10400, .inl mm))] sz)) 0 0 (va_A [(qm, .inr (9, [.int cd, .int (nI n), .ref qmr, .int fm, .int (nI cm), .ref qmc, .int (nI szv), .ref qmb, .int (nI btv), .int (nI dm), .ref qml])), (qmb, .inl (cI, 10400, .inl mm))] sz) := by
  refine met_i (cc := cMo_byteAt) (maxL := 2) (S := Unit) (D := D) (wO := fun (u : Unit) => [(qm, .inr (9, [.int (nI 0), .int (nI n), .ref qmr, .int fm, .int (nI cm), .ref qmc, .int (nI szv), .ref qmb, .int (nI btv), .int (nI dm), .ref qml])), (qmb, .inl (cI, 10400, .inl mm))]) (by decide) (Nat.le_of_ble_eq_true rfl) ?_
  intro p e s m below meth c hx hb hml hown hts hlocks hin hWd A hA hsz hP hK hD hS Q hret ls hl
  have hown : s.vm.findClass "ColumnFormsModel" = some m.cls := hown
  have hl : lv_has ls 2 [(0, .ref qm), (1, .int (nI i))] := hl
  have hP : va_P D vwCl [(qm, .inr (9, [.int cd, .int (nI n), .ref qmr, .int fm, .int (nI cm), .ref qmc, .int (nI szv), .ref qmb, .int (nI btv), .int (nI dm), .ref qml])), (qmb, .inl (cI, 10400, .inl mm))] s.heap := hP
  refine lv_aload_n hx hb dMo_byteAt_0 rfl (lv_at hl 0 rfl) ?_
  refine lv_aload_n hx hb dMo_byteAt_1 rfl (lv_at hl 0 rfl) ?_
  refine va_get (D := D) (ci := 9) (v := .int fm) (C := "ColumnFormsModel") (T := TMo) (N := 11) hx hb hts inMo hown hK hP 0 rfl rfl 3 (by decide) (hts _ tw_592) (fun _ h9 => h9) rfl dMo_byteAt_2 ?_
  refine lv_if_lt (tgt := 20) hx hb dMo_byteAt_5 (by decide) (fun c5 => ?_) (fun c5 => ?_)
  · exact absurd c5 hf
  · refine lv_iload_n hx hb dMo_byteAt_8 rfl (lv_at hl 1 rfl) ?_
    refine lv_if_lt (tgt := 20) hx hb dMo_byteAt_9 (by decide) (fun c9 => ?_) (fun c9 => ?_)
    · have c9 : i < 0 := (nI_ltI (b := 0) (by omega) (by omega)).mp c9
      exact absurd c9 (by omega)
    · have c9 : ¬ i < 0 := fun h => c9 ((nI_ltI (b := 0) (by omega) (by omega)).mpr h)
      refine lv_iload_n hx hb dMo_byteAt_12 rfl (lv_at hl 1 rfl) ?_
      refine lv_aload_n hx hb dMo_byteAt_13 rfl (lv_at hl 0 rfl) ?_
      refine va_get (D := D) (ci := 9) (v := .int (nI szv)) (C := "ColumnFormsModel") (T := TMo) (N := 11) hx hb hts inMo hown hK hP 0 rfl rfl 6 (by decide) (hts _ tw_595) (fun _ h9 => h9) rfl dMo_byteAt_14 ?_
      refine lv_icmp_lt (tgt := 24) hx hb dMo_byteAt_17 (by decide) (fun c17 => ?_) (fun c17 => ?_)
      · have c17 : i < szv := (nI_ltI (by omega) (by omega)).mp c17
        refine lv_iconst (v := nI 0) hx hb dMo_byteAt_24 (by decide) ?_
        refine va_put (D := D) (ci := 9) (v := .int (nI 0)) (ty := .int) (C := "ColumnFormsModel") (T := TMo) (N := 11) hx hb hts inMo tyMo tyMo_ok nmMo hown hK hP hD hS 0 rfl rfl 0 (by decide) (hts _ tw_589) (fun _ h9 => h9) rfl (by decide +kernel) rfl rfl (Nat.le_of_ble_eq_true rfl) dMo_byteAt_25 (fun H locs hP hD hS => ?_)
        have hP : va_P D vwCl [(qm, .inr (9, [.int (nI 0), .int (nI n), .ref qmr, .int fm, .int (nI cm), .ref qmc, .int (nI szv), .ref qmb, .int (nI btv), .int (nI dm), .ref qml])), (qmb, .inl (cI, 10400, .inl mm))] H := hP
        have hD : va_D A [(qm, .inr (9, [.int (nI 0), .int (nI n), .ref qmr, .int fm, .int (nI cm), .ref qmc, .int (nI szv), .ref qmb, .int (nI btv), .int (nI dm), .ref qml])), (qmb, .inl (cI, 10400, .inl mm))] := hD
        refine lv_aload_n hx hb dMo_byteAt_28 rfl (lv_at hl 0 rfl) ?_
        refine va_get (D := D) (ci := 9) (v := .int (nI 0)) (C := "ColumnFormsModel") (T := TMo) (N := 11) hx hb hts inMo hown hK hP 0 rfl rfl 0 (by decide) (hts _ tw_589) (fun _ h9 => h9) rfl dMo_byteAt_29 ?_
        refine lv_if_le (tgt := 39) hx hb dMo_byteAt_32 (by decide) (fun c32 => ?_) (fun c32 => ?_)
        · have c32 : 0 ≤ 0 := (nI_leI (b := 0) (by omega) (by omega)).mp c32
          refine lv_aload_n hx hb dMo_byteAt_39 rfl (lv_at hl 0 rfl) ?_
          refine va_get (D := D) (ci := 9) (v := .ref qmb) (C := "ColumnFormsModel") (T := TMo) (N := 11) hx hb hts inMo hown hK hP 0 rfl rfl 7 (by decide) (hts _ tw_596) (fun _ h9 => h9) rfl dMo_byteAt_40 ?_
          refine lv_iload_n hx hb dMo_byteAt_43 rfl (lv_at hl 1 rfl) ?_
          refine va_iald hx hb hK hP 1 2 rfl rfl (vp_in_nI (by omega) (by omega)) dMo_byteAt_44 ?_
          refine tp_i (show (mm (nI i).toNatClampNeg) = (mm i) from congrArg _ (nI_clamp (by omega))) ?_
          exact hret (mm i) () _ _ _ _ _ _ ⟨rfl, trivial⟩ (hP.sub [0, 1] rfl) (hD.sub [0, 1] (by decide) rfl) hS (Nat.le_of_ble_eq_true rfl) (Nat.le_of_ble_eq_true rfl) dMo_byteAt_45
        · have c32 : ¬ 0 ≤ 0 := fun h => c32 ((nI_leI (b := 0) (by omega) (by omega)).mpr h)
          exact absurd c32 (by decide)
      · have c17 : ¬ i < szv := fun h => c17 ((nI_ltI (by omega) (by omega)).mpr h)
        exact absurd c17 (by omega)

set_option maxHeartbeats 4000000 in
set_option maxRecDepth 100000 in
theorem m_byteAtX (l : Launch) (D : va_G) (cJ cB cI cF : ClassId) (qm : Nat) (cd : Int32) (n : Nat) (qmr : Nat) (fm : Int32) (cm : Nat) (qmc : Nat) (szv : Nat) (qmb : Nat) (btv : Nat) (dm : Nat) (qml : Nat) (iv : Int32) (sz : Nat) (hs : szv ≤ 10400) (hbad : fm < 0 ∨ ¬ ∃ j, j < szv ∧ iv = nI j) : Met l yMo_byteAt (Cond.code yMo_byteAt cMo_byteAt 2 (some .int) :: wsG) ({ frames := 0, cells := 0, slots := 0, locals := 0 }) (va_Pc [.ref qm, .int iv] (cfPre D (cfT cJ cB cI cF) [(qm, .inr (9, [.int cd, .int (nI n), .ref qmr, .int fm, .int (nI cm), .ref qmc, .int (nI szv), .ref qmb, .int (nI btv), .int (nI dm), .ref qml]))] sz)) (va_Qi (fun (r : Int32) (u : Unit) => r = nI 0 ∧ True) (fun u t => cfPost D ((fun (u : Unit) => [(qm, .inr (9, [.int (nI 1), .int (nI n), .ref qmr, .int fm, .int (nI cm), .ref qmc, .int (nI szv), .ref qmb, .int (nI btv), .int (nI dm), .ref qml]))]) u) (va_A [(qm, .inr (9, [.int cd, .int (nI n), .ref qmr, .int fm, .int (nI cm), .ref qmc, .int (nI szv), .ref qmb, .int (nI btv), .int (nI dm), .ref qml]))] sz) t) (va_A [(qm, .inr (9, [.int cd, .int (nI n), .ref qmr, .int fm, .int (nI cm), .ref qmc, .int (nI szv), .ref qmb, .int (nI btv), .int (nI dm), .ref qml]))] sz)) 0 0 (va_A [(qm, .inr (9, [.int cd, .int (nI n), .ref qmr, .int fm, .int (nI cm), .ref qmc, .int (nI szv), .ref qmb, .int (nI btv), .int (nI dm), .ref qml]))] sz) := by
  refine met_i (cc := cMo_byteAt) (maxL := 2) (S := Unit) (D := D) (wO := fun (u : Unit) => [(qm, .inr (9, [.int (nI 1), .int (nI n), .ref qmr, .int fm, .int (nI cm), .ref qmc, .int (nI szv), .ref qmb, .int (nI btv), .int (nI dm), .ref qml]))]) (by decide) (Nat.le_of_ble_eq_true rfl) ?_
  intro p e s m below meth c hx hb hml hown hts hlocks hin hWd A hA hsz hP hK hD hS Q hret ls hl
  have hown : s.vm.findClass "ColumnFormsModel" = some m.cls := hown
  have hl : lv_has ls 2 [(0, .ref qm), (1, .int iv)] := hl
  have hP : va_P D vwCl [(qm, .inr (9, [.int cd, .int (nI n), .ref qmr, .int fm, .int (nI cm), .ref qmc, .int (nI szv), .ref qmb, .int (nI btv), .int (nI dm), .ref qml]))] s.heap := hP
  refine lv_aload_n hx hb dMo_byteAt_0 rfl (lv_at hl 0 rfl) ?_
  refine lv_aload_n hx hb dMo_byteAt_1 rfl (lv_at hl 0 rfl) ?_
  refine va_get (D := D) (ci := 9) (v := .int fm) (C := "ColumnFormsModel") (T := TMo) (N := 11) hx hb hts inMo hown hK hP 0 rfl rfl 3 (by decide) (hts _ tw_592) (fun _ h9 => h9) rfl dMo_byteAt_2 ?_
  refine lv_if_lt (tgt := 20) hx hb dMo_byteAt_5 (by decide) (fun c5 => ?_) (fun c5 => ?_)
  · refine lv_iconst (v := nI 1) hx hb dMo_byteAt_20 (by decide) ?_
    refine lv_goto (tgt := 25) hx hb dMo_byteAt_21 (by decide) ?_
    refine va_put (D := D) (ci := 9) (v := .int (nI 1)) (ty := .int) (C := "ColumnFormsModel") (T := TMo) (N := 11) hx hb hts inMo tyMo tyMo_ok nmMo hown hK hP hD hS 0 rfl rfl 0 (by decide) (hts _ tw_589) (fun _ h9 => h9) rfl (by decide +kernel) rfl rfl (Nat.le_of_ble_eq_true rfl) dMo_byteAt_25 (fun H locs hP hD hS => ?_)
    have hP : va_P D vwCl [(qm, .inr (9, [.int (nI 1), .int (nI n), .ref qmr, .int fm, .int (nI cm), .ref qmc, .int (nI szv), .ref qmb, .int (nI btv), .int (nI dm), .ref qml]))] H := hP
    have hD : va_D A [(qm, .inr (9, [.int (nI 1), .int (nI n), .ref qmr, .int fm, .int (nI cm), .ref qmc, .int (nI szv), .ref qmb, .int (nI btv), .int (nI dm), .ref qml]))] := hD
    refine lv_aload_n hx hb dMo_byteAt_28 rfl (lv_at hl 0 rfl) ?_
    refine va_get (D := D) (ci := 9) (v := .int (nI 1)) (C := "ColumnFormsModel") (T := TMo) (N := 11) hx hb hts inMo hown hK hP 0 rfl rfl 0 (by decide) (hts _ tw_589) (fun _ h9 => h9) rfl dMo_byteAt_29 ?_
    refine lv_if_le (tgt := 39) hx hb dMo_byteAt_32 (by decide) (fun c32 => ?_) (fun c32 => ?_)
    · have c32 : 1 ≤ 0 := (nI_leI (b := 0) (by omega) (by omega)).mp c32
      exact absurd c32 (by decide)
    · have c32 : ¬ 1 ≤ 0 := fun h => c32 ((nI_leI (b := 0) (by omega) (by omega)).mpr h)
      refine lv_iconst (v := nI 0) hx hb dMo_byteAt_35 (by decide) ?_
      refine lv_goto (tgt := 45) hx hb dMo_byteAt_36 (by decide) ?_
      exact hret (nI 0) () _ _ _ _ _ _ ⟨rfl, trivial⟩ (hP.sub [0] rfl) (hD.sub [0] (by decide) rfl) hS (Nat.le_of_ble_eq_true rfl) (Nat.le_of_ble_eq_true rfl) dMo_byteAt_45
  · refine lv_iload_n hx hb dMo_byteAt_8 rfl (lv_at hl 1 rfl) ?_
    refine lv_if_lt (tgt := 20) hx hb dMo_byteAt_9 (by decide) (fun c9 => ?_) (fun c9 => ?_)
    · refine lv_iconst (v := nI 1) hx hb dMo_byteAt_20 (by decide) ?_
      refine lv_goto (tgt := 25) hx hb dMo_byteAt_21 (by decide) ?_
      refine va_put (D := D) (ci := 9) (v := .int (nI 1)) (ty := .int) (C := "ColumnFormsModel") (T := TMo) (N := 11) hx hb hts inMo tyMo tyMo_ok nmMo hown hK hP hD hS 0 rfl rfl 0 (by decide) (hts _ tw_589) (fun _ h9 => h9) rfl (by decide +kernel) rfl rfl (Nat.le_of_ble_eq_true rfl) dMo_byteAt_25 (fun H locs hP hD hS => ?_)
      have hP : va_P D vwCl [(qm, .inr (9, [.int (nI 1), .int (nI n), .ref qmr, .int fm, .int (nI cm), .ref qmc, .int (nI szv), .ref qmb, .int (nI btv), .int (nI dm), .ref qml]))] H := hP
      have hD : va_D A [(qm, .inr (9, [.int (nI 1), .int (nI n), .ref qmr, .int fm, .int (nI cm), .ref qmc, .int (nI szv), .ref qmb, .int (nI btv), .int (nI dm), .ref qml]))] := hD
      refine lv_aload_n hx hb dMo_byteAt_28 rfl (lv_at hl 0 rfl) ?_
      refine va_get (D := D) (ci := 9) (v := .int (nI 1)) (C := "ColumnFormsModel") (T := TMo) (N := 11) hx hb hts inMo hown hK hP 0 rfl rfl 0 (by decide) (hts _ tw_589) (fun _ h9 => h9) rfl dMo_byteAt_29 ?_
      refine lv_if_le (tgt := 39) hx hb dMo_byteAt_32 (by decide) (fun c32 => ?_) (fun c32 => ?_)
      · have c32 : 1 ≤ 0 := (nI_leI (b := 0) (by omega) (by omega)).mp c32
        exact absurd c32 (by decide)
      · have c32 : ¬ 1 ≤ 0 := fun h => c32 ((nI_leI (b := 0) (by omega) (by omega)).mpr h)
        refine lv_iconst (v := nI 0) hx hb dMo_byteAt_35 (by decide) ?_
        refine lv_goto (tgt := 45) hx hb dMo_byteAt_36 (by decide) ?_
        exact hret (nI 0) () _ _ _ _ _ _ ⟨rfl, trivial⟩ (hP.sub [0] rfl) (hD.sub [0] (by decide) rfl) hS (Nat.le_of_ble_eq_true rfl) (Nat.le_of_ble_eq_true rfl) dMo_byteAt_45
    · refine lv_iload_n hx hb dMo_byteAt_12 rfl (lv_at hl 1 rfl) ?_
      refine lv_aload_n hx hb dMo_byteAt_13 rfl (lv_at hl 0 rfl) ?_
      refine va_get (D := D) (ci := 9) (v := .int (nI szv)) (C := "ColumnFormsModel") (T := TMo) (N := 11) hx hb hts inMo hown hK hP 0 rfl rfl 6 (by decide) (hts _ tw_595) (fun _ h9 => h9) rfl dMo_byteAt_14 ?_
      refine lv_icmp_lt (tgt := 24) hx hb dMo_byteAt_17 (by decide) (fun c17 => ?_) (fun c17 => ?_)
      · exact hbad.elim (fun q => absurd q c5) (fun q => absurd (i_lt c9 c17 (by omega)) q)
      · refine lv_iconst (v := nI 1) hx hb dMo_byteAt_20 (by decide) ?_
        refine lv_goto (tgt := 25) hx hb dMo_byteAt_21 (by decide) ?_
        refine va_put (D := D) (ci := 9) (v := .int (nI 1)) (ty := .int) (C := "ColumnFormsModel") (T := TMo) (N := 11) hx hb hts inMo tyMo tyMo_ok nmMo hown hK hP hD hS 0 rfl rfl 0 (by decide) (hts _ tw_589) (fun _ h9 => h9) rfl (by decide +kernel) rfl rfl (Nat.le_of_ble_eq_true rfl) dMo_byteAt_25 (fun H locs hP hD hS => ?_)
        have hP : va_P D vwCl [(qm, .inr (9, [.int (nI 1), .int (nI n), .ref qmr, .int fm, .int (nI cm), .ref qmc, .int (nI szv), .ref qmb, .int (nI btv), .int (nI dm), .ref qml]))] H := hP
        have hD : va_D A [(qm, .inr (9, [.int (nI 1), .int (nI n), .ref qmr, .int fm, .int (nI cm), .ref qmc, .int (nI szv), .ref qmb, .int (nI btv), .int (nI dm), .ref qml]))] := hD
        refine lv_aload_n hx hb dMo_byteAt_28 rfl (lv_at hl 0 rfl) ?_
        refine va_get (D := D) (ci := 9) (v := .int (nI 1)) (C := "ColumnFormsModel") (T := TMo) (N := 11) hx hb hts inMo hown hK hP 0 rfl rfl 0 (by decide) (hts _ tw_589) (fun _ h9 => h9) rfl dMo_byteAt_29 ?_
        refine lv_if_le (tgt := 39) hx hb dMo_byteAt_32 (by decide) (fun c32 => ?_) (fun c32 => ?_)
        · have c32 : 1 ≤ 0 := (nI_leI (b := 0) (by omega) (by omega)).mp c32
          exact absurd c32 (by decide)
        · have c32 : ¬ 1 ≤ 0 := fun h => c32 ((nI_leI (b := 0) (by omega) (by omega)).mpr h)
          refine lv_iconst (v := nI 0) hx hb dMo_byteAt_35 (by decide) ?_
          refine lv_goto (tgt := 45) hx hb dMo_byteAt_36 (by decide) ?_
          exact hret (nI 0) () _ _ _ _ _ _ ⟨rfl, trivial⟩ (hP.sub [0] rfl) (hD.sub [0] (by decide) rfl) hS (Nat.le_of_ble_eq_true rfl) (Nat.le_of_ble_eq_true rfl) dMo_byteAt_45

set_option maxHeartbeats 4000000 in
set_option maxRecDepth 100000 in
theorem m_cell (l : Launch) (D : va_G) (cJ cB cI cF : ClassId) (qm : Nat) (cd : Int32) (n : Nat) (qmr : Nat) (fm : Int32) (cm : Nat) (qmc : Nat) (szv : Nat) (qmb : Nat) (btv : Nat) (dm : Nat) (qml : Nat) (ys : Nat → Int64) (i : Nat) (sz : Nat) (hf : ¬ fm < 0) (hs : cm ≤ 1024) (hi1 : i < cm) : Met l yMo_cell (Cond.code yMo_cell cMo_cell 2 (some .long) :: wsG) ({ frames := 0, cells := 0, slots := 0, locals := 0 }) (va_Pc [.ref qm, .int (nI i)] (cfPre D (cfT cJ cB cI cF) [(qm, .inr (9, [.int cd, .int (nI n), .ref qmr, .int fm, .int (nI cm), .ref qmc, .int (nI szv), .ref qmb, .int (nI btv), .int (nI dm), .ref qml])), (qmc, .inl (cJ, 1024, .inr (.inl ys)))] sz)) (va_Ql (fun (r : Int64) (u : Unit) => r = ys i ∧ True) (fun u t => cfPost D ((fun (u : Unit) => [(qm, .inr (9, [.int (nI 0), .int (nI n), .ref qmr, .int fm, .int (nI cm), .ref qmc, .int (nI szv), .ref qmb, .int (nI btv), .int (nI dm), .ref qml])), (qmc, .inl (cJ, 1024, .inr (.inl ys)))]) u) (va_A [(qm, .inr (9, [.int cd, .int (nI n), .ref qmr, .int fm, .int (nI cm), .ref qmc, .int (nI szv), .ref qmb, .int (nI btv), .int (nI dm), .ref qml])), (qmc, .inl (cJ, 1024, .inr (.inl ys)))] sz) t) (va_A [(qm, .inr (9, [.int cd, .int (nI n), .ref qmr, .int fm, .int (nI cm), .ref qmc, .int (nI szv), .ref qmb, .int (nI btv), .int (nI dm), .ref qml])), (qmc, .inl (cJ, 1024, .inr (.inl ys)))] sz)) 0 0 (va_A [(qm, .inr (9, [.int cd, .int (nI n), .ref qmr, .int fm, .int (nI cm), .ref qmc, .int (nI szv), .ref qmb, .int (nI btv), .int (nI dm), .ref qml])), (qmc, .inl (cJ, 1024, .inr (.inl ys)))] sz) := by
  refine met_l (cc := cMo_cell) (maxL := 2) (S := Unit) (D := D) (wO := fun (u : Unit) => [(qm, .inr (9, [.int (nI 0), .int (nI n), .ref qmr, .int fm, .int (nI cm), .ref qmc, .int (nI szv), .ref qmb, .int (nI btv), .int (nI dm), .ref qml])), (qmc, .inl (cJ, 1024, .inr (.inl ys)))]) (by decide) (Nat.le_of_ble_eq_true rfl) ?_
  intro p e s m below meth c hx hb hml hown hts hlocks hin hWd A hA hsz hP hK hD hS Q hret ls hl
  have hown : s.vm.findClass "ColumnFormsModel" = some m.cls := hown
  have hl : lv_has ls 2 [(0, .ref qm), (1, .int (nI i))] := hl
  have hP : va_P D vwCl [(qm, .inr (9, [.int cd, .int (nI n), .ref qmr, .int fm, .int (nI cm), .ref qmc, .int (nI szv), .ref qmb, .int (nI btv), .int (nI dm), .ref qml])), (qmc, .inl (cJ, 1024, .inr (.inl ys)))] s.heap := hP
  refine lv_aload_n hx hb dMo_cell_0 rfl (lv_at hl 0 rfl) ?_
  refine lv_aload_n hx hb dMo_cell_1 rfl (lv_at hl 0 rfl) ?_
  refine va_get (D := D) (ci := 9) (v := .int fm) (C := "ColumnFormsModel") (T := TMo) (N := 11) hx hb hts inMo hown hK hP 0 rfl rfl 3 (by decide) (hts _ tw_592) (fun _ h9 => h9) rfl dMo_cell_2 ?_
  refine lv_if_lt (tgt := 20) hx hb dMo_cell_5 (by decide) (fun c5 => ?_) (fun c5 => ?_)
  · exact absurd c5 hf
  · refine lv_iload_n hx hb dMo_cell_8 rfl (lv_at hl 1 rfl) ?_
    refine lv_if_lt (tgt := 20) hx hb dMo_cell_9 (by decide) (fun c9 => ?_) (fun c9 => ?_)
    · have c9 : i < 0 := (nI_ltI (b := 0) (by omega) (by omega)).mp c9
      exact absurd c9 (by omega)
    · have c9 : ¬ i < 0 := fun h => c9 ((nI_ltI (b := 0) (by omega) (by omega)).mpr h)
      refine lv_iload_n hx hb dMo_cell_12 rfl (lv_at hl 1 rfl) ?_
      refine lv_aload_n hx hb dMo_cell_13 rfl (lv_at hl 0 rfl) ?_
      refine va_get (D := D) (ci := 9) (v := .int (nI cm)) (C := "ColumnFormsModel") (T := TMo) (N := 11) hx hb hts inMo hown hK hP 0 rfl rfl 4 (by decide) (hts _ tw_593) (fun _ h9 => h9) rfl dMo_cell_14 ?_
      refine lv_icmp_lt (tgt := 24) hx hb dMo_cell_17 (by decide) (fun c17 => ?_) (fun c17 => ?_)
      · have c17 : i < cm := (nI_ltI (by omega) (by omega)).mp c17
        refine lv_iconst (v := nI 0) hx hb dMo_cell_24 (by decide) ?_
        refine va_put (D := D) (ci := 9) (v := .int (nI 0)) (ty := .int) (C := "ColumnFormsModel") (T := TMo) (N := 11) hx hb hts inMo tyMo tyMo_ok nmMo hown hK hP hD hS 0 rfl rfl 0 (by decide) (hts _ tw_589) (fun _ h9 => h9) rfl (by decide +kernel) rfl rfl (Nat.le_of_ble_eq_true rfl) dMo_cell_25 (fun H locs hP hD hS => ?_)
        have hP : va_P D vwCl [(qm, .inr (9, [.int (nI 0), .int (nI n), .ref qmr, .int fm, .int (nI cm), .ref qmc, .int (nI szv), .ref qmb, .int (nI btv), .int (nI dm), .ref qml])), (qmc, .inl (cJ, 1024, .inr (.inl ys)))] H := hP
        have hD : va_D A [(qm, .inr (9, [.int (nI 0), .int (nI n), .ref qmr, .int fm, .int (nI cm), .ref qmc, .int (nI szv), .ref qmb, .int (nI btv), .int (nI dm), .ref qml])), (qmc, .inl (cJ, 1024, .inr (.inl ys)))] := hD
        refine lv_aload_n hx hb dMo_cell_28 rfl (lv_at hl 0 rfl) ?_
        refine va_get (D := D) (ci := 9) (v := .int (nI 0)) (C := "ColumnFormsModel") (T := TMo) (N := 11) hx hb hts inMo hown hK hP 0 rfl rfl 0 (by decide) (hts _ tw_589) (fun _ h9 => h9) rfl dMo_cell_29 ?_
        refine lv_if_le (tgt := 39) hx hb dMo_cell_32 (by decide) (fun c32 => ?_) (fun c32 => ?_)
        · have c32 : 0 ≤ 0 := (nI_leI (b := 0) (by omega) (by omega)).mp c32
          refine lv_aload_n hx hb dMo_cell_39 rfl (lv_at hl 0 rfl) ?_
          refine va_get (D := D) (ci := 9) (v := .ref qmc) (C := "ColumnFormsModel") (T := TMo) (N := 11) hx hb hts inMo hown hK hP 0 rfl rfl 5 (by decide) (hts _ tw_594) (fun _ h9 => h9) rfl dMo_cell_40 ?_
          refine lv_iload_n hx hb dMo_cell_43 rfl (lv_at hl 1 rfl) ?_
          refine va_lald hx hb hK hP 1 0 rfl rfl (vp_in_nI (by omega) (by omega)) dMo_cell_44 ?_
          refine tp_l (show (ys (nI i).toNatClampNeg) = (ys i) from congrArg _ (nI_clamp (by omega))) ?_
          exact hret (ys i) () _ _ _ _ _ _ ⟨rfl, trivial⟩ (hP.sub [0, 1] rfl) (hD.sub [0, 1] (by decide) rfl) hS (Nat.le_of_ble_eq_true rfl) (Nat.le_of_ble_eq_true rfl) dMo_cell_45
        · have c32 : ¬ 0 ≤ 0 := fun h => c32 ((nI_leI (b := 0) (by omega) (by omega)).mpr h)
          exact absurd c32 (by decide)
      · have c17 : ¬ i < cm := fun h => c17 ((nI_ltI (by omega) (by omega)).mpr h)
        exact absurd c17 (by omega)

set_option maxHeartbeats 4000000 in
set_option maxRecDepth 100000 in
theorem m_cellX (l : Launch) (D : va_G) (cJ cB cI cF : ClassId) (qm : Nat) (cd : Int32) (n : Nat) (qmr : Nat) (fm : Int32) (cm : Nat) (qmc : Nat) (szv : Nat) (qmb : Nat) (btv : Nat) (dm : Nat) (qml : Nat) (iv : Int32) (sz : Nat) (hs : cm ≤ 1024) (hbad : fm < 0 ∨ ¬ ∃ j, j < cm ∧ iv = nI j) : Met l yMo_cell (Cond.code yMo_cell cMo_cell 2 (some .long) :: wsG) ({ frames := 0, cells := 0, slots := 0, locals := 0 }) (va_Pc [.ref qm, .int iv] (cfPre D (cfT cJ cB cI cF) [(qm, .inr (9, [.int cd, .int (nI n), .ref qmr, .int fm, .int (nI cm), .ref qmc, .int (nI szv), .ref qmb, .int (nI btv), .int (nI dm), .ref qml]))] sz)) (va_Ql (fun (r : Int64) (u : Unit) => r = 0 ∧ True) (fun u t => cfPost D ((fun (u : Unit) => [(qm, .inr (9, [.int (nI 1), .int (nI n), .ref qmr, .int fm, .int (nI cm), .ref qmc, .int (nI szv), .ref qmb, .int (nI btv), .int (nI dm), .ref qml]))]) u) (va_A [(qm, .inr (9, [.int cd, .int (nI n), .ref qmr, .int fm, .int (nI cm), .ref qmc, .int (nI szv), .ref qmb, .int (nI btv), .int (nI dm), .ref qml]))] sz) t) (va_A [(qm, .inr (9, [.int cd, .int (nI n), .ref qmr, .int fm, .int (nI cm), .ref qmc, .int (nI szv), .ref qmb, .int (nI btv), .int (nI dm), .ref qml]))] sz)) 0 0 (va_A [(qm, .inr (9, [.int cd, .int (nI n), .ref qmr, .int fm, .int (nI cm), .ref qmc, .int (nI szv), .ref qmb, .int (nI btv), .int (nI dm), .ref qml]))] sz) := by
  refine met_l (cc := cMo_cell) (maxL := 2) (S := Unit) (D := D) (wO := fun (u : Unit) => [(qm, .inr (9, [.int (nI 1), .int (nI n), .ref qmr, .int fm, .int (nI cm), .ref qmc, .int (nI szv), .ref qmb, .int (nI btv), .int (nI dm), .ref qml]))]) (by decide) (Nat.le_of_ble_eq_true rfl) ?_
  intro p e s m below meth c hx hb hml hown hts hlocks hin hWd A hA hsz hP hK hD hS Q hret ls hl
  have hown : s.vm.findClass "ColumnFormsModel" = some m.cls := hown
  have hl : lv_has ls 2 [(0, .ref qm), (1, .int iv)] := hl
  have hP : va_P D vwCl [(qm, .inr (9, [.int cd, .int (nI n), .ref qmr, .int fm, .int (nI cm), .ref qmc, .int (nI szv), .ref qmb, .int (nI btv), .int (nI dm), .ref qml]))] s.heap := hP
  refine lv_aload_n hx hb dMo_cell_0 rfl (lv_at hl 0 rfl) ?_
  refine lv_aload_n hx hb dMo_cell_1 rfl (lv_at hl 0 rfl) ?_
  refine va_get (D := D) (ci := 9) (v := .int fm) (C := "ColumnFormsModel") (T := TMo) (N := 11) hx hb hts inMo hown hK hP 0 rfl rfl 3 (by decide) (hts _ tw_592) (fun _ h9 => h9) rfl dMo_cell_2 ?_
  refine lv_if_lt (tgt := 20) hx hb dMo_cell_5 (by decide) (fun c5 => ?_) (fun c5 => ?_)
  · refine lv_iconst (v := nI 1) hx hb dMo_cell_20 (by decide) ?_
    refine lv_goto (tgt := 25) hx hb dMo_cell_21 (by decide) ?_
    refine va_put (D := D) (ci := 9) (v := .int (nI 1)) (ty := .int) (C := "ColumnFormsModel") (T := TMo) (N := 11) hx hb hts inMo tyMo tyMo_ok nmMo hown hK hP hD hS 0 rfl rfl 0 (by decide) (hts _ tw_589) (fun _ h9 => h9) rfl (by decide +kernel) rfl rfl (Nat.le_of_ble_eq_true rfl) dMo_cell_25 (fun H locs hP hD hS => ?_)
    have hP : va_P D vwCl [(qm, .inr (9, [.int (nI 1), .int (nI n), .ref qmr, .int fm, .int (nI cm), .ref qmc, .int (nI szv), .ref qmb, .int (nI btv), .int (nI dm), .ref qml]))] H := hP
    have hD : va_D A [(qm, .inr (9, [.int (nI 1), .int (nI n), .ref qmr, .int fm, .int (nI cm), .ref qmc, .int (nI szv), .ref qmb, .int (nI btv), .int (nI dm), .ref qml]))] := hD
    refine lv_aload_n hx hb dMo_cell_28 rfl (lv_at hl 0 rfl) ?_
    refine va_get (D := D) (ci := 9) (v := .int (nI 1)) (C := "ColumnFormsModel") (T := TMo) (N := 11) hx hb hts inMo hown hK hP 0 rfl rfl 0 (by decide) (hts _ tw_589) (fun _ h9 => h9) rfl dMo_cell_29 ?_
    refine lv_if_le (tgt := 39) hx hb dMo_cell_32 (by decide) (fun c32 => ?_) (fun c32 => ?_)
    · have c32 : 1 ≤ 0 := (nI_leI (b := 0) (by omega) (by omega)).mp c32
      exact absurd c32 (by decide)
    · have c32 : ¬ 1 ≤ 0 := fun h => c32 ((nI_leI (b := 0) (by omega) (by omega)).mpr h)
      refine lv_lconst (v := 0) hx hb dMo_cell_35 (by decide) ?_
      refine lv_goto (tgt := 45) hx hb dMo_cell_36 (by decide) ?_
      exact hret 0 () _ _ _ _ _ _ ⟨rfl, trivial⟩ (hP.sub [0] rfl) (hD.sub [0] (by decide) rfl) hS (Nat.le_of_ble_eq_true rfl) (Nat.le_of_ble_eq_true rfl) dMo_cell_45
  · refine lv_iload_n hx hb dMo_cell_8 rfl (lv_at hl 1 rfl) ?_
    refine lv_if_lt (tgt := 20) hx hb dMo_cell_9 (by decide) (fun c9 => ?_) (fun c9 => ?_)
    · refine lv_iconst (v := nI 1) hx hb dMo_cell_20 (by decide) ?_
      refine lv_goto (tgt := 25) hx hb dMo_cell_21 (by decide) ?_
      refine va_put (D := D) (ci := 9) (v := .int (nI 1)) (ty := .int) (C := "ColumnFormsModel") (T := TMo) (N := 11) hx hb hts inMo tyMo tyMo_ok nmMo hown hK hP hD hS 0 rfl rfl 0 (by decide) (hts _ tw_589) (fun _ h9 => h9) rfl (by decide +kernel) rfl rfl (Nat.le_of_ble_eq_true rfl) dMo_cell_25 (fun H locs hP hD hS => ?_)
      have hP : va_P D vwCl [(qm, .inr (9, [.int (nI 1), .int (nI n), .ref qmr, .int fm, .int (nI cm), .ref qmc, .int (nI szv), .ref qmb, .int (nI btv), .int (nI dm), .ref qml]))] H := hP
      have hD : va_D A [(qm, .inr (9, [.int (nI 1), .int (nI n), .ref qmr, .int fm, .int (nI cm), .ref qmc, .int (nI szv), .ref qmb, .int (nI btv), .int (nI dm), .ref qml]))] := hD
      refine lv_aload_n hx hb dMo_cell_28 rfl (lv_at hl 0 rfl) ?_
      refine va_get (D := D) (ci := 9) (v := .int (nI 1)) (C := "ColumnFormsModel") (T := TMo) (N := 11) hx hb hts inMo hown hK hP 0 rfl rfl 0 (by decide) (hts _ tw_589) (fun _ h9 => h9) rfl dMo_cell_29 ?_
      refine lv_if_le (tgt := 39) hx hb dMo_cell_32 (by decide) (fun c32 => ?_) (fun c32 => ?_)
      · have c32 : 1 ≤ 0 := (nI_leI (b := 0) (by omega) (by omega)).mp c32
        exact absurd c32 (by decide)
      · have c32 : ¬ 1 ≤ 0 := fun h => c32 ((nI_leI (b := 0) (by omega) (by omega)).mpr h)
        refine lv_lconst (v := 0) hx hb dMo_cell_35 (by decide) ?_
        refine lv_goto (tgt := 45) hx hb dMo_cell_36 (by decide) ?_
        exact hret 0 () _ _ _ _ _ _ ⟨rfl, trivial⟩ (hP.sub [0] rfl) (hD.sub [0] (by decide) rfl) hS (Nat.le_of_ble_eq_true rfl) (Nat.le_of_ble_eq_true rfl) dMo_cell_45
    · refine lv_iload_n hx hb dMo_cell_12 rfl (lv_at hl 1 rfl) ?_
      refine lv_aload_n hx hb dMo_cell_13 rfl (lv_at hl 0 rfl) ?_
      refine va_get (D := D) (ci := 9) (v := .int (nI cm)) (C := "ColumnFormsModel") (T := TMo) (N := 11) hx hb hts inMo hown hK hP 0 rfl rfl 4 (by decide) (hts _ tw_593) (fun _ h9 => h9) rfl dMo_cell_14 ?_
      refine lv_icmp_lt (tgt := 24) hx hb dMo_cell_17 (by decide) (fun c17 => ?_) (fun c17 => ?_)
      · exact hbad.elim (fun q => absurd q c5) (fun q => absurd (i_lt c9 c17 (by omega)) q)
      · refine lv_iconst (v := nI 1) hx hb dMo_cell_20 (by decide) ?_
        refine lv_goto (tgt := 25) hx hb dMo_cell_21 (by decide) ?_
        refine va_put (D := D) (ci := 9) (v := .int (nI 1)) (ty := .int) (C := "ColumnFormsModel") (T := TMo) (N := 11) hx hb hts inMo tyMo tyMo_ok nmMo hown hK hP hD hS 0 rfl rfl 0 (by decide) (hts _ tw_589) (fun _ h9 => h9) rfl (by decide +kernel) rfl rfl (Nat.le_of_ble_eq_true rfl) dMo_cell_25 (fun H locs hP hD hS => ?_)
        have hP : va_P D vwCl [(qm, .inr (9, [.int (nI 1), .int (nI n), .ref qmr, .int fm, .int (nI cm), .ref qmc, .int (nI szv), .ref qmb, .int (nI btv), .int (nI dm), .ref qml]))] H := hP
        have hD : va_D A [(qm, .inr (9, [.int (nI 1), .int (nI n), .ref qmr, .int fm, .int (nI cm), .ref qmc, .int (nI szv), .ref qmb, .int (nI btv), .int (nI dm), .ref qml]))] := hD
        refine lv_aload_n hx hb dMo_cell_28 rfl (lv_at hl 0 rfl) ?_
        refine va_get (D := D) (ci := 9) (v := .int (nI 1)) (C := "ColumnFormsModel") (T := TMo) (N := 11) hx hb hts inMo hown hK hP 0 rfl rfl 0 (by decide) (hts _ tw_589) (fun _ h9 => h9) rfl dMo_cell_29 ?_
        refine lv_if_le (tgt := 39) hx hb dMo_cell_32 (by decide) (fun c32 => ?_) (fun c32 => ?_)
        · have c32 : 1 ≤ 0 := (nI_leI (b := 0) (by omega) (by omega)).mp c32
          exact absurd c32 (by decide)
        · have c32 : ¬ 1 ≤ 0 := fun h => c32 ((nI_leI (b := 0) (by omega) (by omega)).mpr h)
          refine lv_lconst (v := 0) hx hb dMo_cell_35 (by decide) ?_
          refine lv_goto (tgt := 45) hx hb dMo_cell_36 (by decide) ?_
          exact hret 0 () _ _ _ _ _ _ ⟨rfl, trivial⟩ (hP.sub [0] rfl) (hD.sub [0] (by decide) rfl) hS (Nat.le_of_ble_eq_true rfl) (Nat.le_of_ble_eq_true rfl) dMo_cell_45

set_option maxHeartbeats 4000000 in
set_option maxRecDepth 100000 in
theorem m_is (l : Launch) (D : va_G) (cJ cB cI cF : ClassId) (kd : Nat) (v : Int64) (x : Int64) (sz : Nat) (hk : kd < 4) : Met l yMo_is (Cond.code yMo_is cMo_is 5 (some .boolean) :: wsG) ({ frames := 0, cells := 0, slots := 0, locals := 0 }) (va_Pc [.int (nI kd), .long v, .long x] (cfPre D (cfT cJ cB cI cF) [] sz)) (va_Qi (fun (r : Int32) (u : Unit) => r = qB (qF kd x x v) ∧ True) (fun u t => cfPost D ((fun (u : Unit) => []) u) (va_A [] sz) t) (va_A [] sz)) 0 0 (va_A [] sz) := by
  refine met_z (cc := cMo_is) (maxL := 5) (S := Unit) (D := D) (wO := fun (u : Unit) => []) (by decide) (Nat.le_of_ble_eq_true rfl) ?_
  intro p e s m below meth c hx hb hml hown hts hlocks hin hWd A hA hsz hP hK hD hS Q hret ls hl
  have hown : s.vm.findClass "ColumnFormsModel" = some m.cls := hown
  have hl : lv_has ls 5 [(0, .int (nI kd)), (1, .long v), (3, .long x)] := hl
  have hP : va_P D vwCl [] s.heap := hP
  rcases (show kd = 0 ∨ kd = 1 ∨ kd = 2 ∨ kd = 3 by omega) with rfl | rfl | rfl | rfl
  · refine lv_iload_n hx hb dMo_is_0 rfl (lv_at hl 0 rfl) ?_
    refine lv_if_ne (tgt := 18) hx hb dMo_is_1 (by decide) (fun c1 => ?_) (fun c1 => ?_)
    · have c1 : ¬ 0 = 0 := fun h => c1 ((nI_eq (b := 0) (by omega) (by omega)).mpr h)
      exact absurd c1 (by decide)
    · have c1 : 0 = 0 := (nI_eq (b := 0) (by omega) (by omega)).mp c1
      refine lv_lload_n hx hb dMo_is_4 rfl (lv_at hl 1 rfl) ?_
      refine lv_lload_n hx hb dMo_is_5 rfl (lv_at hl 2 rfl) ?_
      refine W.lcmp hx hb dMo_is_6 ?_
      refine lv_if_ne (tgt := 14) hx hb dMo_is_7 (by decide) (fun c7 => ?_) (fun c7 => ?_)
      · have c7 : ¬ v = x := fun h => c7 ((lg_cmp_eq _ _).mpr h)
        refine lv_iconst (v := nI 0) hx hb dMo_is_14 (by decide) ?_
        refine lv_goto (tgt := 69) hx hb dMo_is_15 (by decide) ?_
        exact hret (nI 0) () _ _ _ _ _ _ ⟨by show _ = qB (decide _); rw [decide_eq_false c7]; rfl, trivial⟩ (hP.sub [] rfl) (hD.sub [] (by decide) rfl) hS (Nat.le_of_ble_eq_true rfl) (Nat.le_of_ble_eq_true rfl) (by rfl) dMo_is_69
      · have c7 : v = x := (lg_cmp_eq _ _).mp c7
        refine lv_iconst (v := nI 1) hx hb dMo_is_10 (by decide) ?_
        refine lv_goto (tgt := 69) hx hb dMo_is_11 (by decide) ?_
        exact hret (nI 1) () _ _ _ _ _ _ ⟨by show _ = qB (decide _); rw [decide_eq_true c7]; rfl, trivial⟩ (hP.sub [] rfl) (hD.sub [] (by decide) rfl) hS (Nat.le_of_ble_eq_true rfl) (Nat.le_of_ble_eq_true rfl) (by rfl) dMo_is_69
  · refine lv_iload_n hx hb dMo_is_0 rfl (lv_at hl 0 rfl) ?_
    refine lv_if_ne (tgt := 18) hx hb dMo_is_1 (by decide) (fun c1 => ?_) (fun c1 => ?_)
    · have c1 : ¬ 1 = 0 := fun h => c1 ((nI_eq (b := 0) (by omega) (by omega)).mpr h)
      refine lv_iload_n hx hb dMo_is_18 rfl (lv_at hl 0 rfl) ?_
      refine lv_iconst (v := nI 1) hx hb dMo_is_19 (by decide) ?_
      refine lv_icmp_ne (tgt := 37) hx hb dMo_is_20 (by decide) (fun c20 => ?_) (fun c20 => ?_)
      · have c20 : ¬ 1 = 1 := fun h => c20 ((nI_eq (by omega) (by omega)).mpr h)
        exact absurd c20 (by decide)
      · have c20 : 1 = 1 := (nI_eq (by omega) (by omega)).mp c20
        refine lv_lload_n hx hb dMo_is_23 rfl (lv_at hl 1 rfl) ?_
        refine lv_lload_n hx hb dMo_is_24 rfl (lv_at hl 2 rfl) ?_
        refine W.lcmp hx hb dMo_is_25 ?_
        refine lv_if_ge (tgt := 33) hx hb dMo_is_26 (by decide) (fun c26 => ?_) (fun c26 => ?_)
        · have c26 : x ≤ v := (lg_cmp_ge _ _).mp c26
          refine lv_iconst (v := nI 0) hx hb dMo_is_33 (by decide) ?_
          refine lv_goto (tgt := 69) hx hb dMo_is_34 (by decide) ?_
          exact hret (nI 0) () _ _ _ _ _ _ ⟨by show _ = qB (decide _); rw [decide_eq_false (Int64.not_lt.mpr c26)]; rfl, trivial⟩ (hP.sub [] rfl) (hD.sub [] (by decide) rfl) hS (Nat.le_of_ble_eq_true rfl) (Nat.le_of_ble_eq_true rfl) (by rfl) dMo_is_69
        · have c26 : ¬ x ≤ v := fun h => c26 ((lg_cmp_ge _ _).mpr h)
          refine lv_iconst (v := nI 1) hx hb dMo_is_29 (by decide) ?_
          refine lv_goto (tgt := 69) hx hb dMo_is_30 (by decide) ?_
          exact hret (nI 1) () _ _ _ _ _ _ ⟨by show _ = qB (decide _); rw [decide_eq_true (Int64.not_le.mp c26)]; rfl, trivial⟩ (hP.sub [] rfl) (hD.sub [] (by decide) rfl) hS (Nat.le_of_ble_eq_true rfl) (Nat.le_of_ble_eq_true rfl) (by rfl) dMo_is_69
    · have c1 : 1 = 0 := (nI_eq (b := 0) (by omega) (by omega)).mp c1
      exact absurd c1 (by decide)
  · refine lv_iload_n hx hb dMo_is_0 rfl (lv_at hl 0 rfl) ?_
    refine lv_if_ne (tgt := 18) hx hb dMo_is_1 (by decide) (fun c1 => ?_) (fun c1 => ?_)
    · have c1 : ¬ 2 = 0 := fun h => c1 ((nI_eq (b := 0) (by omega) (by omega)).mpr h)
      refine lv_iload_n hx hb dMo_is_18 rfl (lv_at hl 0 rfl) ?_
      refine lv_iconst (v := nI 1) hx hb dMo_is_19 (by decide) ?_
      refine lv_icmp_ne (tgt := 37) hx hb dMo_is_20 (by decide) (fun c20 => ?_) (fun c20 => ?_)
      · have c20 : ¬ 2 = 1 := fun h => c20 ((nI_eq (by omega) (by omega)).mpr h)
        refine lv_iload_n hx hb dMo_is_37 rfl (lv_at hl 0 rfl) ?_
        refine lv_iconst (v := nI 2) hx hb dMo_is_38 (by decide) ?_
        refine lv_icmp_ne (tgt := 56) hx hb dMo_is_39 (by decide) (fun c39 => ?_) (fun c39 => ?_)
        · have c39 : ¬ 2 = 2 := fun h => c39 ((nI_eq (by omega) (by omega)).mpr h)
          exact absurd c39 (by decide)
        · have c39 : 2 = 2 := (nI_eq (by omega) (by omega)).mp c39
          refine lv_lload_n hx hb dMo_is_42 rfl (lv_at hl 1 rfl) ?_
          refine lv_lload_n hx hb dMo_is_43 rfl (lv_at hl 2 rfl) ?_
          refine W.lcmp hx hb dMo_is_44 ?_
          refine lv_if_le (tgt := 52) hx hb dMo_is_45 (by decide) (fun c45 => ?_) (fun c45 => ?_)
          · have c45 : v ≤ x := (lg_cmp_le _ _).mp c45
            refine lv_iconst (v := nI 0) hx hb dMo_is_52 (by decide) ?_
            refine lv_goto (tgt := 69) hx hb dMo_is_53 (by decide) ?_
            exact hret (nI 0) () _ _ _ _ _ _ ⟨by show _ = qB (decide _); rw [decide_eq_false (Int64.not_lt.mpr c45)]; rfl, trivial⟩ (hP.sub [] rfl) (hD.sub [] (by decide) rfl) hS (Nat.le_of_ble_eq_true rfl) (Nat.le_of_ble_eq_true rfl) (by rfl) dMo_is_69
          · have c45 : ¬ v ≤ x := fun h => c45 ((lg_cmp_le _ _).mpr h)
            refine lv_iconst (v := nI 1) hx hb dMo_is_48 (by decide) ?_
            refine lv_goto (tgt := 69) hx hb dMo_is_49 (by decide) ?_
            exact hret (nI 1) () _ _ _ _ _ _ ⟨by show _ = qB (decide _); rw [decide_eq_true (Int64.not_le.mp c45)]; rfl, trivial⟩ (hP.sub [] rfl) (hD.sub [] (by decide) rfl) hS (Nat.le_of_ble_eq_true rfl) (Nat.le_of_ble_eq_true rfl) (by rfl) dMo_is_69
      · have c20 : 2 = 1 := (nI_eq (by omega) (by omega)).mp c20
        exact absurd c20 (by decide)
    · have c1 : 2 = 0 := (nI_eq (b := 0) (by omega) (by omega)).mp c1
      exact absurd c1 (by decide)
  · refine lv_iload_n hx hb dMo_is_0 rfl (lv_at hl 0 rfl) ?_
    refine lv_if_ne (tgt := 18) hx hb dMo_is_1 (by decide) (fun c1 => ?_) (fun c1 => ?_)
    · have c1 : ¬ 3 = 0 := fun h => c1 ((nI_eq (b := 0) (by omega) (by omega)).mpr h)
      refine lv_iload_n hx hb dMo_is_18 rfl (lv_at hl 0 rfl) ?_
      refine lv_iconst (v := nI 1) hx hb dMo_is_19 (by decide) ?_
      refine lv_icmp_ne (tgt := 37) hx hb dMo_is_20 (by decide) (fun c20 => ?_) (fun c20 => ?_)
      · have c20 : ¬ 3 = 1 := fun h => c20 ((nI_eq (by omega) (by omega)).mpr h)
        refine lv_iload_n hx hb dMo_is_37 rfl (lv_at hl 0 rfl) ?_
        refine lv_iconst (v := nI 2) hx hb dMo_is_38 (by decide) ?_
        refine lv_icmp_ne (tgt := 56) hx hb dMo_is_39 (by decide) (fun c39 => ?_) (fun c39 => ?_)
        · have c39 : ¬ 3 = 2 := fun h => c39 ((nI_eq (by omega) (by omega)).mpr h)
          refine lv_lload_n hx hb dMo_is_56 rfl (lv_at hl 1 rfl) ?_
          refine lv_lload_n hx hb dMo_is_57 rfl (lv_at hl 2 rfl) ?_
          refine lv_land hx hb dMo_is_58 ?_
          refine lv_lload_n hx hb dMo_is_59 rfl (lv_at hl 2 rfl) ?_
          refine W.lcmp hx hb dMo_is_60 ?_
          refine lv_if_ne (tgt := 68) hx hb dMo_is_61 (by decide) (fun c61 => ?_) (fun c61 => ?_)
          · have c61 : ¬ (v &&& x) = x := fun h => c61 ((lg_cmp_eq _ _).mpr h)
            refine lv_iconst (v := nI 0) hx hb dMo_is_68 (by decide) ?_
            exact hret (nI 0) () _ _ _ _ _ _ ⟨by show _ = qB (decide _); rw [decide_eq_false c61]; rfl, trivial⟩ (hP.sub [] rfl) (hD.sub [] (by decide) rfl) hS (Nat.le_of_ble_eq_true rfl) (Nat.le_of_ble_eq_true rfl) (by rfl) dMo_is_69
          · have c61 : (v &&& x) = x := (lg_cmp_eq _ _).mp c61
            refine lv_iconst (v := nI 1) hx hb dMo_is_64 (by decide) ?_
            refine lv_goto (tgt := 69) hx hb dMo_is_65 (by decide) ?_
            exact hret (nI 1) () _ _ _ _ _ _ ⟨by show _ = qB (decide _); rw [decide_eq_true c61]; rfl, trivial⟩ (hP.sub [] rfl) (hD.sub [] (by decide) rfl) hS (Nat.le_of_ble_eq_true rfl) (Nat.le_of_ble_eq_true rfl) (by rfl) dMo_is_69
        · have c39 : 3 = 2 := (nI_eq (by omega) (by omega)).mp c39
          exact absurd c39 (by decide)
      · have c20 : 3 = 1 := (nI_eq (by omega) (by omega)).mp c20
        exact absurd c20 (by decide)
    · have c1 : 3 = 0 := (nI_eq (b := 0) (by omega) (by omega)).mp c1
      exact absurd c1 (by decide)

set_option maxHeartbeats 4000000 in
set_option maxRecDepth 100000 in
theorem m_count (l : Launch) (D : va_G) (cJ cB cI cF : ClassId) (qm : Nat) (cd : Int32) (n : Nat) (qmr : Nat) (fm : Int32) (cm : Nat) (qmc : Nat) (szv : Nat) (qmb : Nat) (btv : Nat) (dm : Nat) (qml : Nat) (ys : Nat → Int64) (kd : Nat) (x : Int64) (sz : Nat) (hk : kd < 4) (hf : ¬ fm < 0) (hs : cm ≤ 1024) : Met l yMo_count (Cond.code yMo_count cMo_count 6 (some .int) :: wsG) ({ frames := 1, cells := 0, slots := 0, locals := 24 }) (va_Pc [.ref qm, .int (nI kd), .long x] (cfPre D (cfT cJ cB cI cF) [(qm, .inr (9, [.int cd, .int (nI n), .ref qmr, .int fm, .int (nI cm), .ref qmc, .int (nI szv), .ref qmb, .int (nI btv), .int (nI dm), .ref qml])), (qmc, .inl (cJ, 1024, .inr (.inl ys)))] sz)) (va_Qi (fun (r : Int32) (u : Unit) => r = nI (nC (qF kd x x) ys cm) ∧ True) (fun u t => cfPost D ((fun (u : Unit) => [(qm, .inr (9, [.int (nI 0), .int (nI n), .ref qmr, .int fm, .int (nI cm), .ref qmc, .int (nI szv), .ref qmb, .int (nI btv), .int (nI dm), .ref qml])), (qmc, .inl (cJ, 1024, .inr (.inl ys)))]) u) (va_A [(qm, .inr (9, [.int cd, .int (nI n), .ref qmr, .int fm, .int (nI cm), .ref qmc, .int (nI szv), .ref qmb, .int (nI btv), .int (nI dm), .ref qml])), (qmc, .inl (cJ, 1024, .inr (.inl ys)))] sz) t) (va_A [(qm, .inr (9, [.int cd, .int (nI n), .ref qmr, .int fm, .int (nI cm), .ref qmc, .int (nI szv), .ref qmb, .int (nI btv), .int (nI dm), .ref qml])), (qmc, .inl (cJ, 1024, .inr (.inl ys)))] sz)) 0 0 (va_A [(qm, .inr (9, [.int cd, .int (nI n), .ref qmr, .int fm, .int (nI cm), .ref qmc, .int (nI szv), .ref qmb, .int (nI btv), .int (nI dm), .ref qml])), (qmc, .inl (cJ, 1024, .inr (.inl ys)))] sz) := by
  refine met_i (cc := cMo_count) (maxL := 6) (S := Unit) (D := D) (wO := fun (u : Unit) => [(qm, .inr (9, [.int (nI 0), .int (nI n), .ref qmr, .int fm, .int (nI cm), .ref qmc, .int (nI szv), .ref qmb, .int (nI btv), .int (nI dm), .ref qml])), (qmc, .inl (cJ, 1024, .inr (.inl ys)))]) (by decide) (Nat.le_of_ble_eq_true rfl) ?_
  intro p e s m below meth c hx hb hml hown hts hlocks hin hWd A hA hsz hP hK hD hS Q hret ls hl
  have hown : s.vm.findClass "ColumnFormsModel" = some m.cls := hown
  have hl : lv_has ls 6 [(0, .ref qm), (1, .int (nI kd)), (2, .long x)] := hl
  have hP : va_P D vwCl [(qm, .inr (9, [.int cd, .int (nI n), .ref qmr, .int fm, .int (nI cm), .ref qmc, .int (nI szv), .ref qmb, .int (nI btv), .int (nI dm), .ref qml])), (qmc, .inl (cJ, 1024, .inr (.inl ys)))] s.heap := hP
  refine lv_aload_n hx hb dMo_count_0 rfl (lv_at hl 0 rfl) ?_
  refine lv_iload_n hx hb dMo_count_1 rfl (lv_at hl 1 rfl) ?_
  refine lv_if_lt (tgt := 10) hx hb dMo_count_2 (by decide) (fun c2 => ?_) (fun c2 => ?_)
  · have c2 : kd < 0 := (nI_ltI (b := 0) (by omega) (by omega)).mp c2
    exact absurd c2 (by omega)
  · have c2 : ¬ kd < 0 := fun h => c2 ((nI_ltI (b := 0) (by omega) (by omega)).mpr h)
    refine lv_iload_n hx hb dMo_count_5 rfl (lv_at hl 1 rfl) ?_
    refine lv_iconst (v := nI 3) hx hb dMo_count_6 (by decide) ?_
    refine lv_icmp_le (tgt := 14) hx hb dMo_count_7 (by decide) (fun c7 => ?_) (fun c7 => ?_)
    · have c7 : kd ≤ 3 := (nI_leI (by omega) (by omega)).mp c7
      refine lv_aload_n hx hb dMo_count_14 rfl (lv_at hl 0 rfl) ?_
      refine va_get (D := D) (ci := 9) (v := .int fm) (C := "ColumnFormsModel") (T := TMo) (N := 11) hx hb hts inMo hown hK hP 0 rfl rfl 3 (by decide) (hts _ tw_592) (fun _ h9 => h9) rfl dMo_count_15 ?_
      refine lv_if_ge (tgt := 25) hx hb dMo_count_18 (by decide) (fun c18 => ?_) (fun c18 => ?_)
      · refine lv_iconst (v := nI 0) hx hb dMo_count_25 (by decide) ?_
        refine va_put (D := D) (ci := 9) (v := .int (nI 0)) (ty := .int) (C := "ColumnFormsModel") (T := TMo) (N := 11) hx hb hts inMo tyMo tyMo_ok nmMo hown hK hP hD hS 0 rfl rfl 0 (by decide) (hts _ tw_589) (fun _ h9 => h9) rfl (by decide +kernel) rfl rfl (Nat.le_of_ble_eq_true rfl) dMo_count_26 (fun H locs hP hD hS => ?_)
        have hP : va_P D vwCl [(qm, .inr (9, [.int (nI 0), .int (nI n), .ref qmr, .int fm, .int (nI cm), .ref qmc, .int (nI szv), .ref qmb, .int (nI btv), .int (nI dm), .ref qml])), (qmc, .inl (cJ, 1024, .inr (.inl ys)))] H := hP
        have hD : va_D A [(qm, .inr (9, [.int (nI 0), .int (nI n), .ref qmr, .int fm, .int (nI cm), .ref qmc, .int (nI szv), .ref qmb, .int (nI btv), .int (nI dm), .ref qml])), (qmc, .inl (cJ, 1024, .inr (.inl ys)))] := hD
        refine lv_iconst (v := nI 0) hx hb dMo_count_29 (by decide) ?_
        refine lv_istore (lv' := [(4, .int (nI 0)), (0, .ref qm), (1, .int (nI kd)), (2, .long x)]) hx hb dMo_count_30 hl (by decide) rfl (fun ls hl => ?_)
        refine lv_iconst (v := nI 0) hx hb dMo_count_32 (by decide) ?_
        refine lv_istore (lv' := [(5, .int (nI 0)), (4, .int (nI 0)), (0, .ref qm), (1, .int (nI kd)), (2, .long x)]) hx hb dMo_count_33 hl (by decide) rfl (fun ls hl => ?_)
        have lp : ∀ (k_lp : Nat) (i : Nat) (cn : Nat), (i ≤ cm) → (cn = nC (qF kd x x) ys i) → (cm - i < k_lp) → ∀ (H : Heap) (locs : List Loc) (ls : Array Slot), va_P D vwCl [(qm, .inr (9, [.int (nI 0), .int (nI n), .ref qmr, .int fm, .int (nI cm), .ref qmc, .int (nI szv), .ref qmb, .int (nI btv), .int (nI dm), .ref qml])), (qmc, .inl (cJ, 1024, .inr (.inl ys)))] H → va_D A [(qm, .inr (9, [.int (nI 0), .int (nI n), .ref qmr, .int fm, .int (nI cm), .ref qmc, .int (nI szv), .ref qmb, .int (nI btv), .int (nI dm), .ref qml])), (qmc, .inl (cJ, 1024, .inr (.inl ys)))] → va_S A s.heap H locs → lv_has ls 6 [(0, .ref qm), (1, .int (nI kd)), (2, .long x), (4, .int (nI cn)), (5, .int (nI i))] → W p l e ({ frames := 1, cells := 0, slots := 0, locals := 24 }) s m ([.ref qm, .int (nI kd), .long x].toArray) below meth c H locs (0) (0) Q (F0 m 35 ls []) := by
          intro k_lp
          induction k_lp with
          | zero => intro i cn g1 g2 hfu; exact absurd hfu (by omega)
          | succ k_lp ih_lp =>
            intro i cn g1 g2 hfu H locs ls hP hD hS hl
            have hcn : cn ≤ i := by rw [g2]; exact nC_le _ _ _
            refine lv_iload hx hb dMo_count_35 (lv_at hl 4 rfl) ?_
            refine lv_aload_n hx hb dMo_count_37 rfl (lv_at hl 0 rfl) ?_
            refine va_get (D := D) (ci := 9) (v := .int (nI cm)) (C := "ColumnFormsModel") (T := TMo) (N := 11) hx hb hts inMo hown hK hP 0 rfl rfl 4 (by decide) (hts _ tw_593) (fun _ h9 => h9) rfl dMo_count_38 ?_
            refine lv_icmp_ge (tgt := 82) hx hb dMo_count_41 (by decide) (fun c41 => ?_) (fun c41 => ?_)
            · have c41 : cm ≤ i := (nI_leI (by omega) (by omega)).mp c41
              refine lv_iload hx hb dMo_count_82 (lv_at hl 3 rfl) ?_
              exact hret (nI cn) () _ _ _ _ _ _ ⟨congrArg nI (by rw [g2, show i = cm by omega]), trivial⟩ (hP.sub [0, 1] rfl) (hD.sub [0, 1] (by decide) rfl) hS (Nat.le_of_ble_eq_true rfl) (Nat.le_of_ble_eq_true rfl) dMo_count_84
            · have c41 : ¬ cm ≤ i := fun h => c41 ((nI_leI (by omega) (by omega)).mpr h)
              refine lv_aload_n hx hb dMo_count_44 rfl (lv_at hl 0 rfl) ?_
              refine va_get (D := D) (ci := 9) (v := .int (nI 0)) (C := "ColumnFormsModel") (T := TMo) (N := 11) hx hb hts inMo hown hK hP 0 rfl rfl 0 (by decide) (hts _ tw_589) (fun _ h9 => h9) rfl dMo_count_45 ?_
              refine lv_if_ne (tgt := 82) hx hb dMo_count_48 (by decide) (fun c48 => ?_) (fun c48 => ?_)
              · have c48 : ¬ 0 = 0 := fun h => c48 ((nI_eq (b := 0) (by omega) (by omega)).mpr h)
                exact absurd c48 (by decide)
              · have c48 : 0 = 0 := (nI_eq (b := 0) (by omega) (by omega)).mp c48
                refine lv_iload hx hb dMo_count_51 (lv_at hl 3 rfl) ?_
                refine lv_iload_n hx hb dMo_count_53 rfl (lv_at hl 1 rfl) ?_
                refine lv_aload_n hx hb dMo_count_54 rfl (lv_at hl 0 rfl) ?_
                refine va_get (D := D) (ci := 9) (v := .ref qmc) (C := "ColumnFormsModel") (T := TMo) (N := 11) hx hb hts inMo hown hK hP 0 rfl rfl 5 (by decide) (hts _ tw_594) (fun _ h9 => h9) rfl dMo_count_55 ?_
                refine lv_iload hx hb dMo_count_58 (lv_at hl 4 rfl) ?_
                refine va_lald hx hb hK hP 1 0 rfl rfl (vp_in_nI (by omega) (by omega)) dMo_count_60 ?_
                refine tp_l (show (ys (nI i).toNatClampNeg) = (ys i) from congrArg _ (nI_clamp (by omega))) ?_
                refine lv_lload_n hx hb dMo_count_61 rfl (lv_at hl 2 rfl) ?_
                refine kc_i (wc := []) (wr := [(qm, .inr (9, [.int (nI 0), .int (nI n), .ref qmr, .int fm, .int (nI cm), .ref qmc, .int (nI szv), .ref qmb, .int (nI btv), .int (nI dm), .ref qml])), (qmc, .inl (cJ, 1024, .inr (.inl ys)))]) hP hD hS hA [] [0, 1] rfl rfl (by decide) (by decide) (by decide) (fun hPc hDc => va_runS (As := [.int (nI kd), .long (ys i), .long x]) (rest := [.int (nI cn)]) ⟨hx, hb, hml, hown, hts⟩ (m_is l D cJ cB cI cF kd (ys i) x _ (hk)) (va_cwS 3 hts (wsG_k tw_737 (wsG_k tw_738 (wsG_k tw_10 (wsG_c tw_739)))) rfl rfl rfl (by decide +kernel) ⟨Nat.le_of_ble_eq_true rfl, Nat.le_of_ble_eq_true rfl⟩) ⟨cf_blind, cf_pre hPc hK hDc hWd⟩ rfl rfl hl.1 rfl (lv_room (Nat.le_of_ble_eq_true rfl)) dMo_count_62 ⟨Nat.le_of_ble_eq_true rfl, Nat.le_of_ble_eq_true rfl⟩) (fun r u H locs hw hP hD hS => ?_)
                obtain ⟨rfl, -⟩ := hw
                have hP : va_P D vwCl [(qm, .inr (9, [.int (nI 0), .int (nI n), .ref qmr, .int fm, .int (nI cm), .ref qmc, .int (nI szv), .ref qmb, .int (nI btv), .int (nI dm), .ref qml])), (qmc, .inl (cJ, 1024, .inr (.inl ys)))] H := hP
                have hD : va_D A [(qm, .inr (9, [.int (nI 0), .int (nI n), .ref qmr, .int fm, .int (nI cm), .ref qmc, .int (nI szv), .ref qmb, .int (nI btv), .int (nI dm), .ref qml])), (qmc, .inl (cJ, 1024, .inr (.inl ys)))] := hD
                refine lv_if_eq (tgt := 72) hx hb dMo_count_65 (by decide) (fun c65 => ?_) (fun c65 => ?_)
                · refine lv_iconst (v := nI 0) hx hb dMo_count_72 (by decide) ?_
                  refine lv_iadd hx hb dMo_count_73 ?_
                  refine tp_i (show ((nI cn) + (nI 0)) = (nI (cn + 0)) from nI_add _ _) ?_
                  refine lv_istore (lv' := [(4, .int (nI (cn + 0))), (0, .ref qm), (1, .int (nI kd)), (2, .long x), (5, .int (nI i))]) hx hb dMo_count_74 hl (by decide) rfl (fun ls hl => ?_)
                  refine lv_iinc (v := nI (i + 1)) (lv' := [(5, .int (nI (i + 1))), (4, .int (nI (cn + 0))), (0, .ref qm), (1, .int (nI kd)), (2, .long x)]) hx hb dMo_count_76 hl (k := 4) rfl (by rw [show (Int32.ofInt 1) = nI 1 from by decide]; exact nI_add _ _) (by decide) rfl (fun ls hl => ?_)
                  refine lv_goto (tgt := 35) hx hb dMo_count_79 (by decide) ?_
                  exact ih_lp (i + 1) (cn + 0) (by omega) (by rw [nC_n (qB_f c65), g2]) (by omega) _ _ _ (hP.sub [0, 1] rfl) (hD.sub [0, 1] (by decide) rfl) hS (lv_sub hl [2, 3, 4, 1, 0] rfl)
                · refine lv_iconst (v := nI 1) hx hb dMo_count_68 (by decide) ?_
                  refine lv_goto (tgt := 73) hx hb dMo_count_69 (by decide) ?_
                  refine lv_iadd hx hb dMo_count_73 ?_
                  refine tp_i (show ((nI cn) + (nI 1)) = (nI (cn + 1)) from nI_add _ _) ?_
                  refine lv_istore (lv' := [(4, .int (nI (cn + 1))), (0, .ref qm), (1, .int (nI kd)), (2, .long x), (5, .int (nI i))]) hx hb dMo_count_74 hl (by decide) rfl (fun ls hl => ?_)
                  refine lv_iinc (v := nI (i + 1)) (lv' := [(5, .int (nI (i + 1))), (4, .int (nI (cn + 1))), (0, .ref qm), (1, .int (nI kd)), (2, .long x)]) hx hb dMo_count_76 hl (k := 4) rfl (by rw [show (Int32.ofInt 1) = nI 1 from by decide]; exact nI_add _ _) (by decide) rfl (fun ls hl => ?_)
                  refine lv_goto (tgt := 35) hx hb dMo_count_79 (by decide) ?_
                  exact ih_lp (i + 1) (cn + 1) (by omega) (by rw [nC_y (qB_t c65), g2]) (by omega) _ _ _ (hP.sub [0, 1] rfl) (hD.sub [0, 1] (by decide) rfl) hS (lv_sub hl [2, 3, 4, 1, 0] rfl)
        exact lp (cm - 0 + 1) 0 0 (Nat.zero_le cm) (rfl) (by omega) _ _ _ (hP.sub [0, 1] rfl) (hD.sub [0, 1] (by decide) rfl) hS (lv_sub hl [2, 3, 4, 1, 0] rfl)
      · exact absurd (Int32.not_lt.mp hf) c18
    · have c7 : ¬ kd ≤ 3 := fun h => c7 ((nI_leI (by omega) (by omega)).mpr h)
      exact absurd c7 (by omega)

set_option maxHeartbeats 4000000 in
set_option maxRecDepth 100000 in
theorem m_countX1 (l : Launch) (D : va_G) (cJ cB cI cF : ClassId) (qm : Nat) (cd : Int32) (n : Nat) (qmr : Nat) (fm : Int32) (cm : Nat) (qmc : Nat) (szv : Nat) (qmb : Nat) (btv : Nat) (dm : Nat) (qml : Nat) (kv : Int32) (x : Int64) (sz : Nat) (hs : cm ≤ 1024) (hbad : ¬ ∃ j, j < 4 ∧ kv = nI j) : Met l yMo_count (Cond.code yMo_count cMo_count 6 (some .int) :: wsG) ({ frames := 0, cells := 0, slots := 0, locals := 0 }) (va_Pc [.ref qm, .int kv, .long x] (cfPre D (cfT cJ cB cI cF) [(qm, .inr (9, [.int cd, .int (nI n), .ref qmr, .int fm, .int (nI cm), .ref qmc, .int (nI szv), .ref qmb, .int (nI btv), .int (nI dm), .ref qml]))] sz)) (va_Qi (fun (r : Int32) (u : Unit) => r = nI 0 ∧ True) (fun u t => cfPost D ((fun (u : Unit) => [(qm, .inr (9, [.int (nI 1), .int (nI n), .ref qmr, .int fm, .int (nI cm), .ref qmc, .int (nI szv), .ref qmb, .int (nI btv), .int (nI dm), .ref qml]))]) u) (va_A [(qm, .inr (9, [.int cd, .int (nI n), .ref qmr, .int fm, .int (nI cm), .ref qmc, .int (nI szv), .ref qmb, .int (nI btv), .int (nI dm), .ref qml]))] sz) t) (va_A [(qm, .inr (9, [.int cd, .int (nI n), .ref qmr, .int fm, .int (nI cm), .ref qmc, .int (nI szv), .ref qmb, .int (nI btv), .int (nI dm), .ref qml]))] sz)) 0 0 (va_A [(qm, .inr (9, [.int cd, .int (nI n), .ref qmr, .int fm, .int (nI cm), .ref qmc, .int (nI szv), .ref qmb, .int (nI btv), .int (nI dm), .ref qml]))] sz) := by
  refine met_i (cc := cMo_count) (maxL := 6) (S := Unit) (D := D) (wO := fun (u : Unit) => [(qm, .inr (9, [.int (nI 1), .int (nI n), .ref qmr, .int fm, .int (nI cm), .ref qmc, .int (nI szv), .ref qmb, .int (nI btv), .int (nI dm), .ref qml]))]) (by decide) (Nat.le_of_ble_eq_true rfl) ?_
  intro p e s m below meth c hx hb hml hown hts hlocks hin hWd A hA hsz hP hK hD hS Q hret ls hl
  have hown : s.vm.findClass "ColumnFormsModel" = some m.cls := hown
  have hl : lv_has ls 6 [(0, .ref qm), (1, .int kv), (2, .long x)] := hl
  have hP : va_P D vwCl [(qm, .inr (9, [.int cd, .int (nI n), .ref qmr, .int fm, .int (nI cm), .ref qmc, .int (nI szv), .ref qmb, .int (nI btv), .int (nI dm), .ref qml]))] s.heap := hP
  refine lv_aload_n hx hb dMo_count_0 rfl (lv_at hl 0 rfl) ?_
  refine lv_iload_n hx hb dMo_count_1 rfl (lv_at hl 1 rfl) ?_
  refine lv_if_lt (tgt := 10) hx hb dMo_count_2 (by decide) (fun c2 => ?_) (fun c2 => ?_)
  · refine lv_iconst (v := nI 1) hx hb dMo_count_10 (by decide) ?_
    refine lv_goto (tgt := 26) hx hb dMo_count_11 (by decide) ?_
    refine va_put (D := D) (ci := 9) (v := .int (nI 1)) (ty := .int) (C := "ColumnFormsModel") (T := TMo) (N := 11) hx hb hts inMo tyMo tyMo_ok nmMo hown hK hP hD hS 0 rfl rfl 0 (by decide) (hts _ tw_589) (fun _ h9 => h9) rfl (by decide +kernel) rfl rfl (Nat.le_of_ble_eq_true rfl) dMo_count_26 (fun H locs hP hD hS => ?_)
    have hP : va_P D vwCl [(qm, .inr (9, [.int (nI 1), .int (nI n), .ref qmr, .int fm, .int (nI cm), .ref qmc, .int (nI szv), .ref qmb, .int (nI btv), .int (nI dm), .ref qml]))] H := hP
    have hD : va_D A [(qm, .inr (9, [.int (nI 1), .int (nI n), .ref qmr, .int fm, .int (nI cm), .ref qmc, .int (nI szv), .ref qmb, .int (nI btv), .int (nI dm), .ref qml]))] := hD
    refine lv_iconst (v := nI 0) hx hb dMo_count_29 (by decide) ?_
    refine lv_istore (lv' := [(4, .int (nI 0)), (0, .ref qm), (1, .int kv), (2, .long x)]) hx hb dMo_count_30 hl (by decide) rfl (fun ls hl => ?_)
    refine lv_iconst (v := nI 0) hx hb dMo_count_32 (by decide) ?_
    refine lv_istore (lv' := [(5, .int (nI 0)), (4, .int (nI 0)), (0, .ref qm), (1, .int kv), (2, .long x)]) hx hb dMo_count_33 hl (by decide) rfl (fun ls hl => ?_)
    refine lv_iload hx hb dMo_count_35 (lv_at hl 0 rfl) ?_
    refine lv_aload_n hx hb dMo_count_37 rfl (lv_at hl 2 rfl) ?_
    refine va_get (D := D) (ci := 9) (v := .int (nI cm)) (C := "ColumnFormsModel") (T := TMo) (N := 11) hx hb hts inMo hown hK hP 0 rfl rfl 4 (by decide) (hts _ tw_593) (fun _ h9 => h9) rfl dMo_count_38 ?_
    refine lv_icmp_ge (tgt := 82) hx hb dMo_count_41 (by decide) (fun c41 => ?_) (fun c41 => ?_)
    · have c41 : cm ≤ 0 := (nI_leI (by omega) (by omega)).mp c41
      refine lv_iload hx hb dMo_count_82 (lv_at hl 1 rfl) ?_
      exact hret (nI 0) () _ _ _ _ _ _ ⟨rfl, trivial⟩ (hP.sub [0] rfl) (hD.sub [0] (by decide) rfl) hS (Nat.le_of_ble_eq_true rfl) (Nat.le_of_ble_eq_true rfl) dMo_count_84
    · have c41 : ¬ cm ≤ 0 := fun h => c41 ((nI_leI (by omega) (by omega)).mpr h)
      refine lv_aload_n hx hb dMo_count_44 rfl (lv_at hl 2 rfl) ?_
      refine va_get (D := D) (ci := 9) (v := .int (nI 1)) (C := "ColumnFormsModel") (T := TMo) (N := 11) hx hb hts inMo hown hK hP 0 rfl rfl 0 (by decide) (hts _ tw_589) (fun _ h9 => h9) rfl dMo_count_45 ?_
      refine lv_if_ne (tgt := 82) hx hb dMo_count_48 (by decide) (fun c48 => ?_) (fun c48 => ?_)
      · have c48 : ¬ 1 = 0 := fun h => c48 ((nI_eq (b := 0) (by omega) (by omega)).mpr h)
        refine lv_iload hx hb dMo_count_82 (lv_at hl 1 rfl) ?_
        exact hret (nI 0) () _ _ _ _ _ _ ⟨rfl, trivial⟩ (hP.sub [0] rfl) (hD.sub [0] (by decide) rfl) hS (Nat.le_of_ble_eq_true rfl) (Nat.le_of_ble_eq_true rfl) dMo_count_84
      · have c48 : 1 = 0 := (nI_eq (b := 0) (by omega) (by omega)).mp c48
        exact absurd c48 (by decide)
  · refine lv_iload_n hx hb dMo_count_5 rfl (lv_at hl 1 rfl) ?_
    refine lv_iconst (v := nI 3) hx hb dMo_count_6 (by decide) ?_
    refine lv_icmp_le (tgt := 14) hx hb dMo_count_7 (by decide) (fun c7 => ?_) (fun c7 => ?_)
    · exact absurd (i_lt c2 (Int32.lt_of_le_of_lt c7 (by decide : nI 3 < nI 4)) (by omega)) hbad
    · refine lv_iconst (v := nI 1) hx hb dMo_count_10 (by decide) ?_
      refine lv_goto (tgt := 26) hx hb dMo_count_11 (by decide) ?_
      refine va_put (D := D) (ci := 9) (v := .int (nI 1)) (ty := .int) (C := "ColumnFormsModel") (T := TMo) (N := 11) hx hb hts inMo tyMo tyMo_ok nmMo hown hK hP hD hS 0 rfl rfl 0 (by decide) (hts _ tw_589) (fun _ h9 => h9) rfl (by decide +kernel) rfl rfl (Nat.le_of_ble_eq_true rfl) dMo_count_26 (fun H locs hP hD hS => ?_)
      have hP : va_P D vwCl [(qm, .inr (9, [.int (nI 1), .int (nI n), .ref qmr, .int fm, .int (nI cm), .ref qmc, .int (nI szv), .ref qmb, .int (nI btv), .int (nI dm), .ref qml]))] H := hP
      have hD : va_D A [(qm, .inr (9, [.int (nI 1), .int (nI n), .ref qmr, .int fm, .int (nI cm), .ref qmc, .int (nI szv), .ref qmb, .int (nI btv), .int (nI dm), .ref qml]))] := hD
      refine lv_iconst (v := nI 0) hx hb dMo_count_29 (by decide) ?_
      refine lv_istore (lv' := [(4, .int (nI 0)), (0, .ref qm), (1, .int kv), (2, .long x)]) hx hb dMo_count_30 hl (by decide) rfl (fun ls hl => ?_)
      refine lv_iconst (v := nI 0) hx hb dMo_count_32 (by decide) ?_
      refine lv_istore (lv' := [(5, .int (nI 0)), (4, .int (nI 0)), (0, .ref qm), (1, .int kv), (2, .long x)]) hx hb dMo_count_33 hl (by decide) rfl (fun ls hl => ?_)
      refine lv_iload hx hb dMo_count_35 (lv_at hl 0 rfl) ?_
      refine lv_aload_n hx hb dMo_count_37 rfl (lv_at hl 2 rfl) ?_
      refine va_get (D := D) (ci := 9) (v := .int (nI cm)) (C := "ColumnFormsModel") (T := TMo) (N := 11) hx hb hts inMo hown hK hP 0 rfl rfl 4 (by decide) (hts _ tw_593) (fun _ h9 => h9) rfl dMo_count_38 ?_
      refine lv_icmp_ge (tgt := 82) hx hb dMo_count_41 (by decide) (fun c41 => ?_) (fun c41 => ?_)
      · have c41 : cm ≤ 0 := (nI_leI (by omega) (by omega)).mp c41
        refine lv_iload hx hb dMo_count_82 (lv_at hl 1 rfl) ?_
        exact hret (nI 0) () _ _ _ _ _ _ ⟨rfl, trivial⟩ (hP.sub [0] rfl) (hD.sub [0] (by decide) rfl) hS (Nat.le_of_ble_eq_true rfl) (Nat.le_of_ble_eq_true rfl) dMo_count_84
      · have c41 : ¬ cm ≤ 0 := fun h => c41 ((nI_leI (by omega) (by omega)).mpr h)
        refine lv_aload_n hx hb dMo_count_44 rfl (lv_at hl 2 rfl) ?_
        refine va_get (D := D) (ci := 9) (v := .int (nI 1)) (C := "ColumnFormsModel") (T := TMo) (N := 11) hx hb hts inMo hown hK hP 0 rfl rfl 0 (by decide) (hts _ tw_589) (fun _ h9 => h9) rfl dMo_count_45 ?_
        refine lv_if_ne (tgt := 82) hx hb dMo_count_48 (by decide) (fun c48 => ?_) (fun c48 => ?_)
        · have c48 : ¬ 1 = 0 := fun h => c48 ((nI_eq (b := 0) (by omega) (by omega)).mpr h)
          refine lv_iload hx hb dMo_count_82 (lv_at hl 1 rfl) ?_
          exact hret (nI 0) () _ _ _ _ _ _ ⟨rfl, trivial⟩ (hP.sub [0] rfl) (hD.sub [0] (by decide) rfl) hS (Nat.le_of_ble_eq_true rfl) (Nat.le_of_ble_eq_true rfl) dMo_count_84
        · have c48 : 1 = 0 := (nI_eq (b := 0) (by omega) (by omega)).mp c48
          exact absurd c48 (by decide)

set_option maxHeartbeats 4000000 in
set_option maxRecDepth 100000 in
theorem m_countX2 (l : Launch) (D : va_G) (cJ cB cI cF : ClassId) (qm : Nat) (cd : Int32) (n : Nat) (qmr : Nat) (fm : Int32) (cm : Nat) (qmc : Nat) (szv : Nat) (qmb : Nat) (btv : Nat) (dm : Nat) (qml : Nat) (kd : Nat) (x : Int64) (sz : Nat) (hs : cm ≤ 1024) (hk : kd < 4) (hf : fm = -1) : Met l yMo_count (Cond.code yMo_count cMo_count 6 (some .int) :: wsG) ({ frames := 0, cells := 0, slots := 0, locals := 0 }) (va_Pc [.ref qm, .int (nI kd), .long x] (cfPre D (cfT cJ cB cI cF) [(qm, .inr (9, [.int cd, .int (nI n), .ref qmr, .int fm, .int (nI cm), .ref qmc, .int (nI szv), .ref qmb, .int (nI btv), .int (nI dm), .ref qml]))] sz)) (va_Qi (fun (r : Int32) (u : Unit) => r = nI 0 ∧ True) (fun u t => cfPost D ((fun (u : Unit) => [(qm, .inr (9, [.int (nI 2), .int (nI n), .ref qmr, .int fm, .int (nI cm), .ref qmc, .int (nI szv), .ref qmb, .int (nI btv), .int (nI dm), .ref qml]))]) u) (va_A [(qm, .inr (9, [.int cd, .int (nI n), .ref qmr, .int fm, .int (nI cm), .ref qmc, .int (nI szv), .ref qmb, .int (nI btv), .int (nI dm), .ref qml]))] sz) t) (va_A [(qm, .inr (9, [.int cd, .int (nI n), .ref qmr, .int fm, .int (nI cm), .ref qmc, .int (nI szv), .ref qmb, .int (nI btv), .int (nI dm), .ref qml]))] sz)) 0 0 (va_A [(qm, .inr (9, [.int cd, .int (nI n), .ref qmr, .int fm, .int (nI cm), .ref qmc, .int (nI szv), .ref qmb, .int (nI btv), .int (nI dm), .ref qml]))] sz) := by
  refine met_i (cc := cMo_count) (maxL := 6) (S := Unit) (D := D) (wO := fun (u : Unit) => [(qm, .inr (9, [.int (nI 2), .int (nI n), .ref qmr, .int fm, .int (nI cm), .ref qmc, .int (nI szv), .ref qmb, .int (nI btv), .int (nI dm), .ref qml]))]) (by decide) (Nat.le_of_ble_eq_true rfl) ?_
  intro p e s m below meth c hx hb hml hown hts hlocks hin hWd A hA hsz hP hK hD hS Q hret ls hl
  have hown : s.vm.findClass "ColumnFormsModel" = some m.cls := hown
  have hl : lv_has ls 6 [(0, .ref qm), (1, .int (nI kd)), (2, .long x)] := hl
  have hP : va_P D vwCl [(qm, .inr (9, [.int cd, .int (nI n), .ref qmr, .int fm, .int (nI cm), .ref qmc, .int (nI szv), .ref qmb, .int (nI btv), .int (nI dm), .ref qml]))] s.heap := hP
  refine lv_aload_n hx hb dMo_count_0 rfl (lv_at hl 0 rfl) ?_
  refine lv_iload_n hx hb dMo_count_1 rfl (lv_at hl 1 rfl) ?_
  refine lv_if_lt (tgt := 10) hx hb dMo_count_2 (by decide) (fun c2 => ?_) (fun c2 => ?_)
  · have c2 : kd < 0 := (nI_ltI (b := 0) (by omega) (by omega)).mp c2
    exact absurd c2 (by omega)
  · have c2 : ¬ kd < 0 := fun h => c2 ((nI_ltI (b := 0) (by omega) (by omega)).mpr h)
    refine lv_iload_n hx hb dMo_count_5 rfl (lv_at hl 1 rfl) ?_
    refine lv_iconst (v := nI 3) hx hb dMo_count_6 (by decide) ?_
    refine lv_icmp_le (tgt := 14) hx hb dMo_count_7 (by decide) (fun c7 => ?_) (fun c7 => ?_)
    · have c7 : kd ≤ 3 := (nI_leI (by omega) (by omega)).mp c7
      refine lv_aload_n hx hb dMo_count_14 rfl (lv_at hl 0 rfl) ?_
      refine va_get (D := D) (ci := 9) (v := .int fm) (C := "ColumnFormsModel") (T := TMo) (N := 11) hx hb hts inMo hown hK hP 0 rfl rfl 3 (by decide) (hts _ tw_592) (fun _ h9 => h9) rfl dMo_count_15 ?_
      refine lv_if_ge (tgt := 25) hx hb dMo_count_18 (by decide) (fun c18 => ?_) (fun c18 => ?_)
      · exact absurd c18 (by rw [hf]; decide)
      · refine lv_iconst (v := nI 2) hx hb dMo_count_21 (by decide) ?_
        refine lv_goto (tgt := 26) hx hb dMo_count_22 (by decide) ?_
        refine va_put (D := D) (ci := 9) (v := .int (nI 2)) (ty := .int) (C := "ColumnFormsModel") (T := TMo) (N := 11) hx hb hts inMo tyMo tyMo_ok nmMo hown hK hP hD hS 0 rfl rfl 0 (by decide) (hts _ tw_589) (fun _ h9 => h9) rfl (by decide +kernel) rfl rfl (Nat.le_of_ble_eq_true rfl) dMo_count_26 (fun H locs hP hD hS => ?_)
        have hP : va_P D vwCl [(qm, .inr (9, [.int (nI 2), .int (nI n), .ref qmr, .int fm, .int (nI cm), .ref qmc, .int (nI szv), .ref qmb, .int (nI btv), .int (nI dm), .ref qml]))] H := hP
        have hD : va_D A [(qm, .inr (9, [.int (nI 2), .int (nI n), .ref qmr, .int fm, .int (nI cm), .ref qmc, .int (nI szv), .ref qmb, .int (nI btv), .int (nI dm), .ref qml]))] := hD
        refine lv_iconst (v := nI 0) hx hb dMo_count_29 (by decide) ?_
        refine lv_istore (lv' := [(4, .int (nI 0)), (0, .ref qm), (1, .int (nI kd)), (2, .long x)]) hx hb dMo_count_30 hl (by decide) rfl (fun ls hl => ?_)
        refine lv_iconst (v := nI 0) hx hb dMo_count_32 (by decide) ?_
        refine lv_istore (lv' := [(5, .int (nI 0)), (4, .int (nI 0)), (0, .ref qm), (1, .int (nI kd)), (2, .long x)]) hx hb dMo_count_33 hl (by decide) rfl (fun ls hl => ?_)
        refine lv_iload hx hb dMo_count_35 (lv_at hl 0 rfl) ?_
        refine lv_aload_n hx hb dMo_count_37 rfl (lv_at hl 2 rfl) ?_
        refine va_get (D := D) (ci := 9) (v := .int (nI cm)) (C := "ColumnFormsModel") (T := TMo) (N := 11) hx hb hts inMo hown hK hP 0 rfl rfl 4 (by decide) (hts _ tw_593) (fun _ h9 => h9) rfl dMo_count_38 ?_
        refine lv_icmp_ge (tgt := 82) hx hb dMo_count_41 (by decide) (fun c41 => ?_) (fun c41 => ?_)
        · have c41 : cm ≤ 0 := (nI_leI (by omega) (by omega)).mp c41
          refine lv_iload hx hb dMo_count_82 (lv_at hl 1 rfl) ?_
          exact hret (nI 0) () _ _ _ _ _ _ ⟨rfl, trivial⟩ (hP.sub [0] rfl) (hD.sub [0] (by decide) rfl) hS (Nat.le_of_ble_eq_true rfl) (Nat.le_of_ble_eq_true rfl) dMo_count_84
        · have c41 : ¬ cm ≤ 0 := fun h => c41 ((nI_leI (by omega) (by omega)).mpr h)
          refine lv_aload_n hx hb dMo_count_44 rfl (lv_at hl 2 rfl) ?_
          refine va_get (D := D) (ci := 9) (v := .int (nI 2)) (C := "ColumnFormsModel") (T := TMo) (N := 11) hx hb hts inMo hown hK hP 0 rfl rfl 0 (by decide) (hts _ tw_589) (fun _ h9 => h9) rfl dMo_count_45 ?_
          refine lv_if_ne (tgt := 82) hx hb dMo_count_48 (by decide) (fun c48 => ?_) (fun c48 => ?_)
          · have c48 : ¬ 2 = 0 := fun h => c48 ((nI_eq (b := 0) (by omega) (by omega)).mpr h)
            refine lv_iload hx hb dMo_count_82 (lv_at hl 1 rfl) ?_
            exact hret (nI 0) () _ _ _ _ _ _ ⟨rfl, trivial⟩ (hP.sub [0] rfl) (hD.sub [0] (by decide) rfl) hS (Nat.le_of_ble_eq_true rfl) (Nat.le_of_ble_eq_true rfl) dMo_count_84
          · have c48 : 2 = 0 := (nI_eq (b := 0) (by omega) (by omega)).mp c48
            exact absurd c48 (by decide)
    · have c7 : ¬ kd ≤ 3 := fun h => c7 ((nI_leI (by omega) (by omega)).mpr h)
      exact absurd c7 (by omega)

set_option maxHeartbeats 4000000 in
set_option maxRecDepth 100000 in
theorem m_sum (l : Launch) (D : va_G) (cJ cB cI cF : ClassId) (qm : Nat) (cd : Int32) (n : Nat) (qmr : Nat) (fm : Int32) (cm : Nat) (qmc : Nat) (szv : Nat) (qmb : Nat) (btv : Nat) (dm : Nat) (qml : Nat) (ys : Nat → Int64) (low : Int64) (high : Int64) (sz : Nat) (hf : ¬ fm < 0) (hs : cm ≤ 1024) : Met l yMo_sum (Cond.code yMo_sum cMo_sum 8 (some .long) :: wsG) ({ frames := 0, cells := 0, slots := 0, locals := 0 }) (va_Pc [.ref qm, .long low, .long high] (cfPre D (cfT cJ cB cI cF) [(qm, .inr (9, [.int cd, .int (nI n), .ref qmr, .int fm, .int (nI cm), .ref qmc, .int (nI szv), .ref qmb, .int (nI btv), .int (nI dm), .ref qml])), (qmc, .inl (cJ, 1024, .inr (.inl ys)))] sz)) (va_Ql (fun (r : Int64) (u : Unit) => r = nS (qF 4 low high) ys cm ∧ True) (fun u t => cfPost D ((fun (u : Unit) => [(qm, .inr (9, [.int (nI 0), .int (nI n), .ref qmr, .int fm, .int (nI cm), .ref qmc, .int (nI szv), .ref qmb, .int (nI btv), .int (nI dm), .ref qml])), (qmc, .inl (cJ, 1024, .inr (.inl ys)))]) u) (va_A [(qm, .inr (9, [.int cd, .int (nI n), .ref qmr, .int fm, .int (nI cm), .ref qmc, .int (nI szv), .ref qmb, .int (nI btv), .int (nI dm), .ref qml])), (qmc, .inl (cJ, 1024, .inr (.inl ys)))] sz) t) (va_A [(qm, .inr (9, [.int cd, .int (nI n), .ref qmr, .int fm, .int (nI cm), .ref qmc, .int (nI szv), .ref qmb, .int (nI btv), .int (nI dm), .ref qml])), (qmc, .inl (cJ, 1024, .inr (.inl ys)))] sz)) 0 0 (va_A [(qm, .inr (9, [.int cd, .int (nI n), .ref qmr, .int fm, .int (nI cm), .ref qmc, .int (nI szv), .ref qmb, .int (nI btv), .int (nI dm), .ref qml])), (qmc, .inl (cJ, 1024, .inr (.inl ys)))] sz) := by
  refine met_l (cc := cMo_sum) (maxL := 8) (S := Unit) (D := D) (wO := fun (u : Unit) => [(qm, .inr (9, [.int (nI 0), .int (nI n), .ref qmr, .int fm, .int (nI cm), .ref qmc, .int (nI szv), .ref qmb, .int (nI btv), .int (nI dm), .ref qml])), (qmc, .inl (cJ, 1024, .inr (.inl ys)))]) (by decide) (Nat.le_of_ble_eq_true rfl) ?_
  intro p e s m below meth c hx hb hml hown hts hlocks hin hWd A hA hsz hP hK hD hS Q hret ls hl
  have hown : s.vm.findClass "ColumnFormsModel" = some m.cls := hown
  have hl : lv_has ls 8 [(0, .ref qm), (1, .long low), (3, .long high)] := hl
  have hP : va_P D vwCl [(qm, .inr (9, [.int cd, .int (nI n), .ref qmr, .int fm, .int (nI cm), .ref qmc, .int (nI szv), .ref qmb, .int (nI btv), .int (nI dm), .ref qml])), (qmc, .inl (cJ, 1024, .inr (.inl ys)))] s.heap := hP
  refine lv_aload_n hx hb dMo_sum_0 rfl (lv_at hl 0 rfl) ?_
  refine lv_aload_n hx hb dMo_sum_1 rfl (lv_at hl 0 rfl) ?_
  refine va_get (D := D) (ci := 9) (v := .int fm) (C := "ColumnFormsModel") (T := TMo) (N := 11) hx hb hts inMo hown hK hP 0 rfl rfl 3 (by decide) (hts _ tw_592) (fun _ h9 => h9) rfl dMo_sum_2 ?_
  refine lv_if_ge (tgt := 12) hx hb dMo_sum_5 (by decide) (fun c5 => ?_) (fun c5 => ?_)
  · refine lv_iconst (v := nI 0) hx hb dMo_sum_12 (by decide) ?_
    refine va_put (D := D) (ci := 9) (v := .int (nI 0)) (ty := .int) (C := "ColumnFormsModel") (T := TMo) (N := 11) hx hb hts inMo tyMo tyMo_ok nmMo hown hK hP hD hS 0 rfl rfl 0 (by decide) (hts _ tw_589) (fun _ h9 => h9) rfl (by decide +kernel) rfl rfl (Nat.le_of_ble_eq_true rfl) dMo_sum_13 (fun H locs hP hD hS => ?_)
    have hP : va_P D vwCl [(qm, .inr (9, [.int (nI 0), .int (nI n), .ref qmr, .int fm, .int (nI cm), .ref qmc, .int (nI szv), .ref qmb, .int (nI btv), .int (nI dm), .ref qml])), (qmc, .inl (cJ, 1024, .inr (.inl ys)))] H := hP
    have hD : va_D A [(qm, .inr (9, [.int (nI 0), .int (nI n), .ref qmr, .int fm, .int (nI cm), .ref qmc, .int (nI szv), .ref qmb, .int (nI btv), .int (nI dm), .ref qml])), (qmc, .inl (cJ, 1024, .inr (.inl ys)))] := hD
    refine lv_lconst (v := 0) hx hb dMo_sum_16 (by decide) ?_
    refine lv_lstore (lv' := [(5, .long 0), (0, .ref qm), (1, .long low), (3, .long high)]) hx hb dMo_sum_17 hl (by decide) rfl (fun ls hl => ?_)
    refine lv_iconst (v := nI 0) hx hb dMo_sum_19 (by decide) ?_
    refine lv_istore (lv' := [(7, .int (nI 0)), (5, .long 0), (0, .ref qm), (1, .long low), (3, .long high)]) hx hb dMo_sum_20 hl (by decide) rfl (fun ls hl => ?_)
    have lp : ∀ (k_lp : Nat) (i : Nat) (al : Int64), (i ≤ cm) → (al = nS (qF 4 low high) ys i) → (cm - i < k_lp) → ∀ (H : Heap) (locs : List Loc) (ls : Array Slot), va_P D vwCl [(qm, .inr (9, [.int (nI 0), .int (nI n), .ref qmr, .int fm, .int (nI cm), .ref qmc, .int (nI szv), .ref qmb, .int (nI btv), .int (nI dm), .ref qml])), (qmc, .inl (cJ, 1024, .inr (.inl ys)))] H → va_D A [(qm, .inr (9, [.int (nI 0), .int (nI n), .ref qmr, .int fm, .int (nI cm), .ref qmc, .int (nI szv), .ref qmb, .int (nI btv), .int (nI dm), .ref qml])), (qmc, .inl (cJ, 1024, .inr (.inl ys)))] → va_S A s.heap H locs → lv_has ls 8 [(0, .ref qm), (1, .long low), (3, .long high), (5, .long al), (7, .int (nI i))] → W p l e ({ frames := 0, cells := 0, slots := 0, locals := 0 }) s m ([.ref qm, .long low, .long high].toArray) below meth c H locs (0) (0) Q (F0 m 22 ls []) := by
      intro k_lp
      induction k_lp with
      | zero => intro i al g1 g2 hfu; exact absurd hfu (by omega)
      | succ k_lp ih_lp =>
        intro i al g1 g2 hfu H locs ls hP hD hS hl
        refine lv_iload hx hb dMo_sum_22 (lv_at hl 4 rfl) ?_
        refine lv_aload_n hx hb dMo_sum_24 rfl (lv_at hl 0 rfl) ?_
        refine va_get (D := D) (ci := 9) (v := .int (nI cm)) (C := "ColumnFormsModel") (T := TMo) (N := 11) hx hb hts inMo hown hK hP 0 rfl rfl 4 (by decide) (hts _ tw_593) (fun _ h9 => h9) rfl dMo_sum_25 ?_
        refine lv_icmp_ge (tgt := 84) hx hb dMo_sum_28 (by decide) (fun c28 => ?_) (fun c28 => ?_)
        · have c28 : cm ≤ i := (nI_leI (by omega) (by omega)).mp c28
          refine lv_lload hx hb dMo_sum_84 (lv_at hl 3 rfl) ?_
          exact hret al () _ _ _ _ _ _ ⟨by rw [g2, show i = cm by omega], trivial⟩ (hP.sub [0, 1] rfl) (hD.sub [0, 1] (by decide) rfl) hS (Nat.le_of_ble_eq_true rfl) (Nat.le_of_ble_eq_true rfl) dMo_sum_86
        · have c28 : ¬ cm ≤ i := fun h => c28 ((nI_leI (by omega) (by omega)).mpr h)
          refine lv_aload_n hx hb dMo_sum_31 rfl (lv_at hl 0 rfl) ?_
          refine va_get (D := D) (ci := 9) (v := .int (nI 0)) (C := "ColumnFormsModel") (T := TMo) (N := 11) hx hb hts inMo hown hK hP 0 rfl rfl 0 (by decide) (hts _ tw_589) (fun _ h9 => h9) rfl dMo_sum_32 ?_
          refine lv_if_ne (tgt := 84) hx hb dMo_sum_35 (by decide) (fun c35 => ?_) (fun c35 => ?_)
          · have c35 : ¬ 0 = 0 := fun h => c35 ((nI_eq (b := 0) (by omega) (by omega)).mpr h)
            exact absurd c35 (by decide)
          · have c35 : 0 = 0 := (nI_eq (b := 0) (by omega) (by omega)).mp c35
            refine lv_lload hx hb dMo_sum_38 (lv_at hl 3 rfl) ?_
            refine lv_aload_n hx hb dMo_sum_40 rfl (lv_at hl 0 rfl) ?_
            refine va_get (D := D) (ci := 9) (v := .ref qmc) (C := "ColumnFormsModel") (T := TMo) (N := 11) hx hb hts inMo hown hK hP 0 rfl rfl 5 (by decide) (hts _ tw_594) (fun _ h9 => h9) rfl dMo_sum_41 ?_
            refine lv_iload hx hb dMo_sum_44 (lv_at hl 4 rfl) ?_
            refine va_lald hx hb hK hP 1 0 rfl rfl (vp_in_nI (by omega) (by omega)) dMo_sum_46 ?_
            refine tp_l (show (ys (nI i).toNatClampNeg) = (ys i) from congrArg _ (nI_clamp (by omega))) ?_
            refine lv_lload_n hx hb dMo_sum_47 rfl (lv_at hl 1 rfl) ?_
            refine W.lcmp hx hb dMo_sum_48 ?_
            refine lv_if_lt (tgt := 74) hx hb dMo_sum_49 (by decide) (fun c49 => ?_) (fun c49 => ?_)
            · have c49 : (ys i) < low := (lg_cmp_lt _ _).mp c49
              refine lv_lconst (v := 0) hx hb dMo_sum_74 (by decide) ?_
              refine lv_ladd hx hb dMo_sum_75 ?_
              refine lv_lstore (lv' := [(5, .long (al + 0)), (0, .ref qm), (1, .long low), (3, .long high), (7, .int (nI i))]) hx hb dMo_sum_76 hl (by decide) rfl (fun ls hl => ?_)
              refine lv_iinc (v := nI (i + 1)) (lv' := [(7, .int (nI (i + 1))), (5, .long (al + 0)), (0, .ref qm), (1, .long low), (3, .long high)]) hx hb dMo_sum_78 hl (k := 4) rfl (by rw [show (Int32.ofInt 1) = nI 1 from by decide]; exact nI_add _ _) (by decide) rfl (fun ls hl => ?_)
              refine lv_goto (tgt := 22) hx hb dMo_sum_81 (by decide) ?_
              exact ih_lp (i + 1) (al + 0) (by omega) (by rw [nS_n (q4_a c49), g2]) (by omega) _ _ _ (hP.sub [0, 1] rfl) (hD.sub [0, 1] (by decide) rfl) hS (lv_sub hl [2, 3, 4, 1, 0] rfl)
            · have c49 : ¬ (ys i) < low := fun h => c49 ((lg_cmp_lt _ _).mpr h)
              refine lv_aload_n hx hb dMo_sum_52 rfl (lv_at hl 0 rfl) ?_
              refine va_get (D := D) (ci := 9) (v := .ref qmc) (C := "ColumnFormsModel") (T := TMo) (N := 11) hx hb hts inMo hown hK hP 0 rfl rfl 5 (by decide) (hts _ tw_594) (fun _ h9 => h9) rfl dMo_sum_53 ?_
              refine lv_iload hx hb dMo_sum_56 (lv_at hl 4 rfl) ?_
              refine va_lald hx hb hK hP 1 0 rfl rfl (vp_in_nI (by omega) (by omega)) dMo_sum_58 ?_
              refine tp_l (show (ys (nI i).toNatClampNeg) = (ys i) from congrArg _ (nI_clamp (by omega))) ?_
              refine lv_lload_n hx hb dMo_sum_59 rfl (lv_at hl 2 rfl) ?_
              refine W.lcmp hx hb dMo_sum_60 ?_
              refine lv_if_gt (tgt := 74) hx hb dMo_sum_61 (by decide) (fun c61 => ?_) (fun c61 => ?_)
              · have c61 : high < (ys i) := (lg_cmp_gt _ _).mp c61
                refine lv_lconst (v := 0) hx hb dMo_sum_74 (by decide) ?_
                refine lv_ladd hx hb dMo_sum_75 ?_
                refine lv_lstore (lv' := [(5, .long (al + 0)), (0, .ref qm), (1, .long low), (3, .long high), (7, .int (nI i))]) hx hb dMo_sum_76 hl (by decide) rfl (fun ls hl => ?_)
                refine lv_iinc (v := nI (i + 1)) (lv' := [(7, .int (nI (i + 1))), (5, .long (al + 0)), (0, .ref qm), (1, .long low), (3, .long high)]) hx hb dMo_sum_78 hl (k := 4) rfl (by rw [show (Int32.ofInt 1) = nI 1 from by decide]; exact nI_add _ _) (by decide) rfl (fun ls hl => ?_)
                refine lv_goto (tgt := 22) hx hb dMo_sum_81 (by decide) ?_
                exact ih_lp (i + 1) (al + 0) (by omega) (by rw [nS_n (q4_b c61), g2]) (by omega) _ _ _ (hP.sub [0, 1] rfl) (hD.sub [0, 1] (by decide) rfl) hS (lv_sub hl [2, 3, 4, 1, 0] rfl)
              · have c61 : ¬ high < (ys i) := fun h => c61 ((lg_cmp_gt _ _).mpr h)
                refine lv_aload_n hx hb dMo_sum_64 rfl (lv_at hl 0 rfl) ?_
                refine va_get (D := D) (ci := 9) (v := .ref qmc) (C := "ColumnFormsModel") (T := TMo) (N := 11) hx hb hts inMo hown hK hP 0 rfl rfl 5 (by decide) (hts _ tw_594) (fun _ h9 => h9) rfl dMo_sum_65 ?_
                refine lv_iload hx hb dMo_sum_68 (lv_at hl 4 rfl) ?_
                refine va_lald hx hb hK hP 1 0 rfl rfl (vp_in_nI (by omega) (by omega)) dMo_sum_70 ?_
                refine tp_l (show (ys (nI i).toNatClampNeg) = (ys i) from congrArg _ (nI_clamp (by omega))) ?_
                refine lv_goto (tgt := 75) hx hb dMo_sum_71 (by decide) ?_
                refine lv_ladd hx hb dMo_sum_75 ?_
                refine lv_lstore (lv' := [(5, .long (al + (ys i))), (0, .ref qm), (1, .long low), (3, .long high), (7, .int (nI i))]) hx hb dMo_sum_76 hl (by decide) rfl (fun ls hl => ?_)
                refine lv_iinc (v := nI (i + 1)) (lv' := [(7, .int (nI (i + 1))), (5, .long (al + (ys i))), (0, .ref qm), (1, .long low), (3, .long high)]) hx hb dMo_sum_78 hl (k := 4) rfl (by rw [show (Int32.ofInt 1) = nI 1 from by decide]; exact nI_add _ _) (by decide) rfl (fun ls hl => ?_)
                refine lv_goto (tgt := 22) hx hb dMo_sum_81 (by decide) ?_
                exact ih_lp (i + 1) (al + (ys i)) (by omega) (by rw [nS_y (q4_y c49 c61), g2]) (by omega) _ _ _ (hP.sub [0, 1] rfl) (hD.sub [0, 1] (by decide) rfl) hS (lv_sub hl [2, 3, 4, 1, 0] rfl)
    exact lp (cm - 0 + 1) 0 0 (Nat.zero_le cm) (rfl) (by omega) _ _ _ (hP.sub [0, 1] rfl) (hD.sub [0, 1] (by decide) rfl) hS (lv_sub hl [2, 3, 4, 1, 0] rfl)
  · exact absurd (Int32.not_lt.mp hf) c5

set_option maxHeartbeats 4000000 in
set_option maxRecDepth 100000 in
theorem m_sumX (l : Launch) (D : va_G) (cJ cB cI cF : ClassId) (qm : Nat) (cd : Int32) (n : Nat) (qmr : Nat) (fm : Int32) (cm : Nat) (qmc : Nat) (szv : Nat) (qmb : Nat) (btv : Nat) (dm : Nat) (qml : Nat) (low : Int64) (high : Int64) (sz : Nat) (hs : cm ≤ 1024) (hf : fm = -1) : Met l yMo_sum (Cond.code yMo_sum cMo_sum 8 (some .long) :: wsG) ({ frames := 0, cells := 0, slots := 0, locals := 0 }) (va_Pc [.ref qm, .long low, .long high] (cfPre D (cfT cJ cB cI cF) [(qm, .inr (9, [.int cd, .int (nI n), .ref qmr, .int fm, .int (nI cm), .ref qmc, .int (nI szv), .ref qmb, .int (nI btv), .int (nI dm), .ref qml]))] sz)) (va_Ql (fun (r : Int64) (u : Unit) => r = 0 ∧ True) (fun u t => cfPost D ((fun (u : Unit) => [(qm, .inr (9, [.int (nI 1), .int (nI n), .ref qmr, .int fm, .int (nI cm), .ref qmc, .int (nI szv), .ref qmb, .int (nI btv), .int (nI dm), .ref qml]))]) u) (va_A [(qm, .inr (9, [.int cd, .int (nI n), .ref qmr, .int fm, .int (nI cm), .ref qmc, .int (nI szv), .ref qmb, .int (nI btv), .int (nI dm), .ref qml]))] sz) t) (va_A [(qm, .inr (9, [.int cd, .int (nI n), .ref qmr, .int fm, .int (nI cm), .ref qmc, .int (nI szv), .ref qmb, .int (nI btv), .int (nI dm), .ref qml]))] sz)) 0 0 (va_A [(qm, .inr (9, [.int cd, .int (nI n), .ref qmr, .int fm, .int (nI cm), .ref qmc, .int (nI szv), .ref qmb, .int (nI btv), .int (nI dm), .ref qml]))] sz) := by
  refine met_l (cc := cMo_sum) (maxL := 8) (S := Unit) (D := D) (wO := fun (u : Unit) => [(qm, .inr (9, [.int (nI 1), .int (nI n), .ref qmr, .int fm, .int (nI cm), .ref qmc, .int (nI szv), .ref qmb, .int (nI btv), .int (nI dm), .ref qml]))]) (by decide) (Nat.le_of_ble_eq_true rfl) ?_
  intro p e s m below meth c hx hb hml hown hts hlocks hin hWd A hA hsz hP hK hD hS Q hret ls hl
  have hown : s.vm.findClass "ColumnFormsModel" = some m.cls := hown
  have hl : lv_has ls 8 [(0, .ref qm), (1, .long low), (3, .long high)] := hl
  have hP : va_P D vwCl [(qm, .inr (9, [.int cd, .int (nI n), .ref qmr, .int fm, .int (nI cm), .ref qmc, .int (nI szv), .ref qmb, .int (nI btv), .int (nI dm), .ref qml]))] s.heap := hP
  refine lv_aload_n hx hb dMo_sum_0 rfl (lv_at hl 0 rfl) ?_
  refine lv_aload_n hx hb dMo_sum_1 rfl (lv_at hl 0 rfl) ?_
  refine va_get (D := D) (ci := 9) (v := .int fm) (C := "ColumnFormsModel") (T := TMo) (N := 11) hx hb hts inMo hown hK hP 0 rfl rfl 3 (by decide) (hts _ tw_592) (fun _ h9 => h9) rfl dMo_sum_2 ?_
  refine lv_if_ge (tgt := 12) hx hb dMo_sum_5 (by decide) (fun c5 => ?_) (fun c5 => ?_)
  · exact absurd c5 (by rw [hf]; decide)
  · refine lv_iconst (v := nI 1) hx hb dMo_sum_8 (by decide) ?_
    refine lv_goto (tgt := 13) hx hb dMo_sum_9 (by decide) ?_
    refine va_put (D := D) (ci := 9) (v := .int (nI 1)) (ty := .int) (C := "ColumnFormsModel") (T := TMo) (N := 11) hx hb hts inMo tyMo tyMo_ok nmMo hown hK hP hD hS 0 rfl rfl 0 (by decide) (hts _ tw_589) (fun _ h9 => h9) rfl (by decide +kernel) rfl rfl (Nat.le_of_ble_eq_true rfl) dMo_sum_13 (fun H locs hP hD hS => ?_)
    have hP : va_P D vwCl [(qm, .inr (9, [.int (nI 1), .int (nI n), .ref qmr, .int fm, .int (nI cm), .ref qmc, .int (nI szv), .ref qmb, .int (nI btv), .int (nI dm), .ref qml]))] H := hP
    have hD : va_D A [(qm, .inr (9, [.int (nI 1), .int (nI n), .ref qmr, .int fm, .int (nI cm), .ref qmc, .int (nI szv), .ref qmb, .int (nI btv), .int (nI dm), .ref qml]))] := hD
    refine lv_lconst (v := 0) hx hb dMo_sum_16 (by decide) ?_
    refine lv_lstore (lv' := [(5, .long 0), (0, .ref qm), (1, .long low), (3, .long high)]) hx hb dMo_sum_17 hl (by decide) rfl (fun ls hl => ?_)
    refine lv_iconst (v := nI 0) hx hb dMo_sum_19 (by decide) ?_
    refine lv_istore (lv' := [(7, .int (nI 0)), (5, .long 0), (0, .ref qm), (1, .long low), (3, .long high)]) hx hb dMo_sum_20 hl (by decide) rfl (fun ls hl => ?_)
    refine lv_iload hx hb dMo_sum_22 (lv_at hl 0 rfl) ?_
    refine lv_aload_n hx hb dMo_sum_24 rfl (lv_at hl 2 rfl) ?_
    refine va_get (D := D) (ci := 9) (v := .int (nI cm)) (C := "ColumnFormsModel") (T := TMo) (N := 11) hx hb hts inMo hown hK hP 0 rfl rfl 4 (by decide) (hts _ tw_593) (fun _ h9 => h9) rfl dMo_sum_25 ?_
    refine lv_icmp_ge (tgt := 84) hx hb dMo_sum_28 (by decide) (fun c28 => ?_) (fun c28 => ?_)
    · have c28 : cm ≤ 0 := (nI_leI (by omega) (by omega)).mp c28
      refine lv_lload hx hb dMo_sum_84 (lv_at hl 1 rfl) ?_
      exact hret 0 () _ _ _ _ _ _ ⟨rfl, trivial⟩ (hP.sub [0] rfl) (hD.sub [0] (by decide) rfl) hS (Nat.le_of_ble_eq_true rfl) (Nat.le_of_ble_eq_true rfl) dMo_sum_86
    · have c28 : ¬ cm ≤ 0 := fun h => c28 ((nI_leI (by omega) (by omega)).mpr h)
      refine lv_aload_n hx hb dMo_sum_31 rfl (lv_at hl 2 rfl) ?_
      refine va_get (D := D) (ci := 9) (v := .int (nI 1)) (C := "ColumnFormsModel") (T := TMo) (N := 11) hx hb hts inMo hown hK hP 0 rfl rfl 0 (by decide) (hts _ tw_589) (fun _ h9 => h9) rfl dMo_sum_32 ?_
      refine lv_if_ne (tgt := 84) hx hb dMo_sum_35 (by decide) (fun c35 => ?_) (fun c35 => ?_)
      · have c35 : ¬ 1 = 0 := fun h => c35 ((nI_eq (b := 0) (by omega) (by omega)).mpr h)
        refine lv_lload hx hb dMo_sum_84 (lv_at hl 1 rfl) ?_
        exact hret 0 () _ _ _ _ _ _ ⟨rfl, trivial⟩ (hP.sub [0] rfl) (hD.sub [0] (by decide) rfl) hS (Nat.le_of_ble_eq_true rfl) (Nat.le_of_ble_eq_true rfl) dMo_sum_86
      · have c35 : 1 = 0 := (nI_eq (b := 0) (by omega) (by omega)).mp c35
        exact absurd c35 (by decide)

set_option maxHeartbeats 4000000 in
set_option maxRecDepth 100000 in
theorem m_bit (l : Launch) (D : va_G) (cJ cB cI cF : ClassId) (qm : Nat) (cd : Int32) (n : Nat) (qmr : Nat) (fm : Int32) (cm : Nat) (qmc : Nat) (szv : Nat) (qmb : Nat) (btv : Nat) (dm : Nat) (qml : Nat) (mm : Nat → Int32) (B : Nat → Bool) (bc : Nat) (b : Nat) (sz : Nat) (hs : szv = (bc + 7) / 8) (hb0 : btv = bc % 8) (hm : mB mm bc B) (hB : b = (B bc).toNat) (hbc : bc < 83000) : Met l yMo_bit (Cond.code yMo_bit cMo_bit 2 none :: wsG) ({ frames := 0, cells := 0, slots := 0, locals := 0 }) (va_Pc [.ref qm, .int (nI b)] (cfPre D (cfT cJ cB cI cF) [(qm, .inr (9, [.int cd, .int (nI n), .ref qmr, .int fm, .int (nI cm), .ref qmc, .int (nI szv), .ref qmb, .int (nI btv), .int (nI dm), .ref qml])), (qmb, .inl (cI, 10400, .inl mm))] sz)) (va_Qv (fun (u : Nat × Nat × (Nat → Int32)) => (u.1 = (bc + 1 + 7) / 8) ∧ (u.2.1 = (bc + 1) % 8) ∧ (mB u.2.2 (bc + 1) B) ∧ True) (fun u t => cfPost D ((fun (u : Nat × Nat × (Nat → Int32)) => [(qm, .inr (9, [.int cd, .int (nI n), .ref qmr, .int fm, .int (nI cm), .ref qmc, .int (nI u.1), .ref qmb, .int (nI u.2.1), .int (nI dm), .ref qml])), (qmb, .inl (cI, 10400, .inl u.2.2))]) u) (va_A [(qm, .inr (9, [.int cd, .int (nI n), .ref qmr, .int fm, .int (nI cm), .ref qmc, .int (nI szv), .ref qmb, .int (nI btv), .int (nI dm), .ref qml])), (qmb, .inl (cI, 10400, .inl mm))] sz) t) (va_A [(qm, .inr (9, [.int cd, .int (nI n), .ref qmr, .int fm, .int (nI cm), .ref qmc, .int (nI szv), .ref qmb, .int (nI btv), .int (nI dm), .ref qml])), (qmb, .inl (cI, 10400, .inl mm))] sz)) 0 0 (va_A [(qm, .inr (9, [.int cd, .int (nI n), .ref qmr, .int fm, .int (nI cm), .ref qmc, .int (nI szv), .ref qmb, .int (nI btv), .int (nI dm), .ref qml])), (qmb, .inl (cI, 10400, .inl mm))] sz) := by
  refine met_v (cc := cMo_bit) (maxL := 2) (S := Nat × Nat × (Nat → Int32)) (D := D) (wO := fun (u : Nat × Nat × (Nat → Int32)) => [(qm, .inr (9, [.int cd, .int (nI n), .ref qmr, .int fm, .int (nI cm), .ref qmc, .int (nI u.1), .ref qmb, .int (nI u.2.1), .int (nI dm), .ref qml])), (qmb, .inl (cI, 10400, .inl u.2.2))]) (by decide) (Nat.le_of_ble_eq_true rfl) ?_
  intro p e s m below meth c hx hb hml hown hts hlocks hin hWd A hA hsz hP hK hD hS Q hret ls hl
  have hown : s.vm.findClass "ColumnFormsModel" = some m.cls := hown
  have hl : lv_has ls 2 [(0, .ref qm), (1, .int (nI b))] := hl
  have hP : va_P D vwCl [(qm, .inr (9, [.int cd, .int (nI n), .ref qmr, .int fm, .int (nI cm), .ref qmc, .int (nI szv), .ref qmb, .int (nI btv), .int (nI dm), .ref qml])), (qmb, .inl (cI, 10400, .inl mm))] s.heap := hP
  have hb1 : b ≤ 1 := by rw [hB]; exact Bool.toNat_le _
  refine lv_aload_n hx hb dMo_bit_0 rfl (lv_at hl 0 rfl) ?_
  refine va_get (D := D) (ci := 9) (v := .int (nI btv)) (C := "ColumnFormsModel") (T := TMo) (N := 11) hx hb hts inMo hown hK hP 0 rfl rfl 8 (by decide) (hts _ tw_597) (fun _ h9 => h9) rfl dMo_bit_1 ?_
  refine lv_if_ne (tgt := 27) hx hb dMo_bit_4 (by decide) (fun c4 => ?_) (fun c4 => ?_)
  · have c4 : ¬ btv = 0 := fun h => c4 ((nI_eq (b := 0) (by omega) (by omega)).mpr h)
    refine lv_aload_n hx hb dMo_bit_27 rfl (lv_at hl 0 rfl) ?_
    refine va_get (D := D) (ci := 9) (v := .ref qmb) (C := "ColumnFormsModel") (T := TMo) (N := 11) hx hb hts inMo hown hK hP 0 rfl rfl 7 (by decide) (hts _ tw_596) (fun _ h9 => h9) rfl dMo_bit_28 ?_
    refine lv_aload_n hx hb dMo_bit_31 rfl (lv_at hl 0 rfl) ?_
    refine va_get (D := D) (ci := 9) (v := .int (nI szv)) (C := "ColumnFormsModel") (T := TMo) (N := 11) hx hb hts inMo hown hK hP 0 rfl rfl 6 (by decide) (hts _ tw_595) (fun _ h9 => h9) rfl dMo_bit_32 ?_
    refine lv_iconst (v := nI 1) hx hb dMo_bit_35 (by decide) ?_
    refine lv_isub hx hb dMo_bit_36 ?_
    refine tp_i (show ((nI szv) - (nI 1)) = (nI (szv - 1)) from pk_sub (by omega)) ?_
    refine lv_dup2_11 hx hb dMo_bit_37 rfl rfl ?_
    refine va_iald hx hb hK hP 1 2 rfl rfl (vp_in_nI (by omega) (by omega)) dMo_bit_38 ?_
    refine tp_i (show (mm (nI (szv - 1)).toNatClampNeg) = (mm (szv - 1)) from congrArg _ (nI_clamp (by omega))) ?_
    refine lv_iload_n hx hb dMo_bit_39 rfl (lv_at hl 1 rfl) ?_
    refine lv_bipush (v := nI 7) hx hb dMo_bit_40 (by decide) ?_
    refine lv_aload_n hx hb dMo_bit_42 rfl (lv_at hl 0 rfl) ?_
    refine va_get (D := D) (ci := 9) (v := .int (nI btv)) (C := "ColumnFormsModel") (T := TMo) (N := 11) hx hb hts inMo hown hK hP 0 rfl rfl 8 (by decide) (hts _ tw_597) (fun _ h9 => h9) rfl dMo_bit_43 ?_
    refine lv_isub hx hb dMo_bit_46 ?_
    refine tp_i (show ((nI 7) - (nI btv)) = (nI (7 - btv)) from pk_sub (by omega)) ?_
    refine lv_ishl hx hb dMo_bit_47 ?_
    refine lv_iadd hx hb dMo_bit_48 ?_
    refine va_iast hx hb hK hP hD hS 1 2 rfl rfl (vp_in_nI (by omega) (by omega)) dMo_bit_49 (fun H locs hP hD hS => ?_)
    rw [nI_clamp (by omega)] at hP hD
    have hP : va_P D vwCl [(qm, .inr (9, [.int cd, .int (nI n), .ref qmr, .int fm, .int (nI cm), .ref qmc, .int (nI szv), .ref qmb, .int (nI btv), .int (nI dm), .ref qml])), (qmb, .inl (cI, 10400, .inl (upd mm (szv - 1) ((mm (szv - 1)) + ((nI b) <<< ((nI (7 - btv)) &&& 31))))))] H := hP
    have hD : va_D A [(qm, .inr (9, [.int cd, .int (nI n), .ref qmr, .int fm, .int (nI cm), .ref qmc, .int (nI szv), .ref qmb, .int (nI btv), .int (nI dm), .ref qml])), (qmb, .inl (cI, 10400, .inl (upd mm (szv - 1) ((mm (szv - 1)) + ((nI b) <<< ((nI (7 - btv)) &&& 31))))))] := hD
    refine lv_aload_n hx hb dMo_bit_50 rfl (lv_at hl 0 rfl) ?_
    refine lv_aload_n hx hb dMo_bit_51 rfl (lv_at hl 0 rfl) ?_
    refine va_get (D := D) (ci := 9) (v := .int (nI btv)) (C := "ColumnFormsModel") (T := TMo) (N := 11) hx hb hts inMo hown hK hP 0 rfl rfl 8 (by decide) (hts _ tw_597) (fun _ h9 => h9) rfl dMo_bit_52 ?_
    refine lv_iconst (v := nI 1) hx hb dMo_bit_55 (by decide) ?_
    refine lv_iadd hx hb dMo_bit_56 ?_
    refine tp_i (show ((nI btv) + (nI 1)) = (nI (btv + 1)) from nI_add _ _) ?_
    refine lv_bipush (v := nI 8) hx hb dMo_bit_57 (by decide) ?_
    refine lv_irem hx hb dMo_bit_59 (by decide) ?_
    refine tp_i (show ((nI (btv + 1)) - (nI (btv + 1)) / (nI 8) * (nI 8)) = (nI ((btv + 1) % 8)) from pk_rem (by omega) (by omega) (by omega)) ?_
    refine va_put (D := D) (ci := 9) (v := .int (nI ((btv + 1) % 8))) (ty := .int) (C := "ColumnFormsModel") (T := TMo) (N := 11) hx hb hts inMo tyMo tyMo_ok nmMo hown hK hP hD hS 0 rfl rfl 8 (by decide) (hts _ tw_597) (fun _ h9 => h9) rfl (by decide +kernel) rfl rfl (Nat.le_of_ble_eq_true rfl) dMo_bit_60 (fun H locs hP hD hS => ?_)
    have hP : va_P D vwCl [(qm, .inr (9, [.int cd, .int (nI n), .ref qmr, .int fm, .int (nI cm), .ref qmc, .int (nI szv), .ref qmb, .int (nI ((btv + 1) % 8)), .int (nI dm), .ref qml])), (qmb, .inl (cI, 10400, .inl (upd mm (szv - 1) ((mm (szv - 1)) + ((nI b) <<< ((nI (7 - btv)) &&& 31))))))] H := hP
    have hD : va_D A [(qm, .inr (9, [.int cd, .int (nI n), .ref qmr, .int fm, .int (nI cm), .ref qmc, .int (nI szv), .ref qmb, .int (nI ((btv + 1) % 8)), .int (nI dm), .ref qml])), (qmb, .inl (cI, 10400, .inl (upd mm (szv - 1) ((mm (szv - 1)) + ((nI b) <<< ((nI (7 - btv)) &&& 31))))))] := hD
    exact hret (szv, (btv + 1) % 8, upd mm (szv - 1) ((mm (szv - 1)) + ((nI b) <<< ((nI (7 - btv)) &&& 31)))) _ _ _ _ _ _ ⟨by show szv = _; omega, by show ((btv + 1) % 8) = _; omega, mB_bitB hm hs hb0 c4 hb1 hB, trivial⟩ (hP.sub [0, 1] rfl) (hD.sub [0, 1] (by decide) rfl) hS (Nat.le_of_ble_eq_true rfl) (Nat.le_of_ble_eq_true rfl) dMo_bit_63
  · have c4 : btv = 0 := (nI_eq (b := 0) (by omega) (by omega)).mp c4
    refine lv_aload_n hx hb dMo_bit_7 rfl (lv_at hl 0 rfl) ?_
    refine va_get (D := D) (ci := 9) (v := .ref qmb) (C := "ColumnFormsModel") (T := TMo) (N := 11) hx hb hts inMo hown hK hP 0 rfl rfl 7 (by decide) (hts _ tw_596) (fun _ h9 => h9) rfl dMo_bit_8 ?_
    refine lv_aload_n hx hb dMo_bit_11 rfl (lv_at hl 0 rfl) ?_
    refine va_get (D := D) (ci := 9) (v := .int (nI szv)) (C := "ColumnFormsModel") (T := TMo) (N := 11) hx hb hts inMo hown hK hP 0 rfl rfl 6 (by decide) (hts _ tw_595) (fun _ h9 => h9) rfl dMo_bit_12 ?_
    refine lv_iconst (v := nI 0) hx hb dMo_bit_15 (by decide) ?_
    refine va_iast hx hb hK hP hD hS 1 2 rfl rfl (vp_in_nI (by omega) (by omega)) dMo_bit_16 (fun H locs hP hD hS => ?_)
    rw [nI_clamp (by omega)] at hP hD
    have hP : va_P D vwCl [(qm, .inr (9, [.int cd, .int (nI n), .ref qmr, .int fm, .int (nI cm), .ref qmc, .int (nI szv), .ref qmb, .int (nI btv), .int (nI dm), .ref qml])), (qmb, .inl (cI, 10400, .inl (upd mm szv (nI 0))))] H := hP
    have hD : va_D A [(qm, .inr (9, [.int cd, .int (nI n), .ref qmr, .int fm, .int (nI cm), .ref qmc, .int (nI szv), .ref qmb, .int (nI btv), .int (nI dm), .ref qml])), (qmb, .inl (cI, 10400, .inl (upd mm szv (nI 0))))] := hD
    refine lv_aload_n hx hb dMo_bit_17 rfl (lv_at hl 0 rfl) ?_
    refine lv_dup hx hb dMo_bit_18 rfl ?_
    refine va_get (D := D) (ci := 9) (v := .int (nI szv)) (C := "ColumnFormsModel") (T := TMo) (N := 11) hx hb hts inMo hown hK hP 0 rfl rfl 6 (by decide) (hts _ tw_595) (fun _ h9 => h9) rfl dMo_bit_19 ?_
    refine lv_iconst (v := nI 1) hx hb dMo_bit_22 (by decide) ?_
    refine lv_iadd hx hb dMo_bit_23 ?_
    refine tp_i (show ((nI szv) + (nI 1)) = (nI (szv + 1)) from nI_add _ _) ?_
    refine va_put (D := D) (ci := 9) (v := .int (nI (szv + 1))) (ty := .int) (C := "ColumnFormsModel") (T := TMo) (N := 11) hx hb hts inMo tyMo tyMo_ok nmMo hown hK hP hD hS 0 rfl rfl 6 (by decide) (hts _ tw_595) (fun _ h9 => h9) rfl (by decide +kernel) rfl rfl (Nat.le_of_ble_eq_true rfl) dMo_bit_24 (fun H locs hP hD hS => ?_)
    have hP : va_P D vwCl [(qm, .inr (9, [.int cd, .int (nI n), .ref qmr, .int fm, .int (nI cm), .ref qmc, .int (nI (szv + 1)), .ref qmb, .int (nI btv), .int (nI dm), .ref qml])), (qmb, .inl (cI, 10400, .inl (upd mm szv (nI 0))))] H := hP
    have hD : va_D A [(qm, .inr (9, [.int cd, .int (nI n), .ref qmr, .int fm, .int (nI cm), .ref qmc, .int (nI (szv + 1)), .ref qmb, .int (nI btv), .int (nI dm), .ref qml])), (qmb, .inl (cI, 10400, .inl (upd mm szv (nI 0))))] := hD
    refine lv_aload_n hx hb dMo_bit_27 rfl (lv_at hl 0 rfl) ?_
    refine va_get (D := D) (ci := 9) (v := .ref qmb) (C := "ColumnFormsModel") (T := TMo) (N := 11) hx hb hts inMo hown hK hP 0 rfl rfl 7 (by decide) (hts _ tw_596) (fun _ h9 => h9) rfl dMo_bit_28 ?_
    refine lv_aload_n hx hb dMo_bit_31 rfl (lv_at hl 0 rfl) ?_
    refine va_get (D := D) (ci := 9) (v := .int (nI (szv + 1))) (C := "ColumnFormsModel") (T := TMo) (N := 11) hx hb hts inMo hown hK hP 0 rfl rfl 6 (by decide) (hts _ tw_595) (fun _ h9 => h9) rfl dMo_bit_32 ?_
    refine lv_iconst (v := nI 1) hx hb dMo_bit_35 (by decide) ?_
    refine lv_isub hx hb dMo_bit_36 ?_
    refine tp_i (show ((nI (szv + 1)) - (nI 1)) = (nI ((szv + 1) - 1)) from pk_sub (by omega)) ?_
    refine lv_dup2_11 hx hb dMo_bit_37 rfl rfl ?_
    refine va_iald hx hb hK hP 1 2 rfl rfl (vp_in_nI (by omega) (by omega)) dMo_bit_38 ?_
    refine tp_i (show ((upd mm szv (nI 0)) (nI ((szv + 1) - 1)).toNatClampNeg) = ((upd mm szv (nI 0)) ((szv + 1) - 1)) from congrArg _ (nI_clamp (by omega))) ?_
    refine lv_iload_n hx hb dMo_bit_39 rfl (lv_at hl 1 rfl) ?_
    refine lv_bipush (v := nI 7) hx hb dMo_bit_40 (by decide) ?_
    refine lv_aload_n hx hb dMo_bit_42 rfl (lv_at hl 0 rfl) ?_
    refine va_get (D := D) (ci := 9) (v := .int (nI btv)) (C := "ColumnFormsModel") (T := TMo) (N := 11) hx hb hts inMo hown hK hP 0 rfl rfl 8 (by decide) (hts _ tw_597) (fun _ h9 => h9) rfl dMo_bit_43 ?_
    refine lv_isub hx hb dMo_bit_46 ?_
    refine tp_i (show ((nI 7) - (nI btv)) = (nI (7 - btv)) from pk_sub (by omega)) ?_
    refine lv_ishl hx hb dMo_bit_47 ?_
    refine lv_iadd hx hb dMo_bit_48 ?_
    refine va_iast hx hb hK hP hD hS 1 2 rfl rfl (vp_in_nI (by omega) (by omega)) dMo_bit_49 (fun H locs hP hD hS => ?_)
    rw [nI_clamp (by omega)] at hP hD
    have hP : va_P D vwCl [(qm, .inr (9, [.int cd, .int (nI n), .ref qmr, .int fm, .int (nI cm), .ref qmc, .int (nI (szv + 1)), .ref qmb, .int (nI btv), .int (nI dm), .ref qml])), (qmb, .inl (cI, 10400, .inl (upd (upd mm szv (nI 0)) ((szv + 1) - 1) (((upd mm szv (nI 0)) ((szv + 1) - 1)) + ((nI b) <<< ((nI (7 - btv)) &&& 31))))))] H := hP
    have hD : va_D A [(qm, .inr (9, [.int cd, .int (nI n), .ref qmr, .int fm, .int (nI cm), .ref qmc, .int (nI (szv + 1)), .ref qmb, .int (nI btv), .int (nI dm), .ref qml])), (qmb, .inl (cI, 10400, .inl (upd (upd mm szv (nI 0)) ((szv + 1) - 1) (((upd mm szv (nI 0)) ((szv + 1) - 1)) + ((nI b) <<< ((nI (7 - btv)) &&& 31))))))] := hD
    refine lv_aload_n hx hb dMo_bit_50 rfl (lv_at hl 0 rfl) ?_
    refine lv_aload_n hx hb dMo_bit_51 rfl (lv_at hl 0 rfl) ?_
    refine va_get (D := D) (ci := 9) (v := .int (nI btv)) (C := "ColumnFormsModel") (T := TMo) (N := 11) hx hb hts inMo hown hK hP 0 rfl rfl 8 (by decide) (hts _ tw_597) (fun _ h9 => h9) rfl dMo_bit_52 ?_
    refine lv_iconst (v := nI 1) hx hb dMo_bit_55 (by decide) ?_
    refine lv_iadd hx hb dMo_bit_56 ?_
    refine tp_i (show ((nI btv) + (nI 1)) = (nI (btv + 1)) from nI_add _ _) ?_
    refine lv_bipush (v := nI 8) hx hb dMo_bit_57 (by decide) ?_
    refine lv_irem hx hb dMo_bit_59 (by decide) ?_
    refine tp_i (show ((nI (btv + 1)) - (nI (btv + 1)) / (nI 8) * (nI 8)) = (nI ((btv + 1) % 8)) from pk_rem (by omega) (by omega) (by omega)) ?_
    refine va_put (D := D) (ci := 9) (v := .int (nI ((btv + 1) % 8))) (ty := .int) (C := "ColumnFormsModel") (T := TMo) (N := 11) hx hb hts inMo tyMo tyMo_ok nmMo hown hK hP hD hS 0 rfl rfl 8 (by decide) (hts _ tw_597) (fun _ h9 => h9) rfl (by decide +kernel) rfl rfl (Nat.le_of_ble_eq_true rfl) dMo_bit_60 (fun H locs hP hD hS => ?_)
    have hP : va_P D vwCl [(qm, .inr (9, [.int cd, .int (nI n), .ref qmr, .int fm, .int (nI cm), .ref qmc, .int (nI (szv + 1)), .ref qmb, .int (nI ((btv + 1) % 8)), .int (nI dm), .ref qml])), (qmb, .inl (cI, 10400, .inl (upd (upd mm szv (nI 0)) ((szv + 1) - 1) (((upd mm szv (nI 0)) ((szv + 1) - 1)) + ((nI b) <<< ((nI (7 - btv)) &&& 31))))))] H := hP
    have hD : va_D A [(qm, .inr (9, [.int cd, .int (nI n), .ref qmr, .int fm, .int (nI cm), .ref qmc, .int (nI (szv + 1)), .ref qmb, .int (nI ((btv + 1) % 8)), .int (nI dm), .ref qml])), (qmb, .inl (cI, 10400, .inl (upd (upd mm szv (nI 0)) ((szv + 1) - 1) (((upd mm szv (nI 0)) ((szv + 1) - 1)) + ((nI b) <<< ((nI (7 - btv)) &&& 31))))))] := hD
    exact hret (szv + 1, (btv + 1) % 8, upd (upd mm szv (nI 0)) ((szv + 1) - 1) (((upd mm szv (nI 0)) ((szv + 1) - 1)) + ((nI b) <<< ((nI (7 - btv)) &&& 31)))) _ _ _ _ _ _ ⟨by show szv + 1 = _; omega, by show ((btv + 1) % 8) = _; omega, mB_bitA hm hs hb0 c4 hb1 hB, trivial⟩ (hP.sub [0, 1] rfl) (hD.sub [0, 1] (by decide) rfl) hS (Nat.le_of_ble_eq_true rfl) (Nat.le_of_ble_eq_true rfl) dMo_bit_63

set_option maxHeartbeats 4000000 in
set_option maxRecDepth 100000 in
theorem m_num (l : Launch) (D : va_G) (cJ cB cI cF : ClassId) (qm : Nat) (cd : Int32) (n : Nat) (qmr : Nat) (fm : Int32) (cm : Nat) (qmc : Nat) (szv : Nat) (qmb : Nat) (btv : Nat) (dm : Nat) (qml : Nat) (mm : Nat → Int32) (B : Nat → Bool) (bc : Nat) (v : Int64) (w : Nat) (sz : Nat) (hs : szv = (bc + 7) / 8) (hb0 : btv = bc % 8) (hm : mB mm bc B) (hw : w ≤ 64) (hbc : bc + w ≤ 82000) : Met l yMo_number (Cond.code yMo_number cMo_number 5 none :: wsG) ({ frames := 1, cells := 0, slots := 0, locals := 21 }) (va_Pc [.ref qm, .long v, .int (nI w)] (cfPre D (cfT cJ cB cI cF) [(qm, .inr (9, [.int cd, .int (nI n), .ref qmr, .int fm, .int (nI cm), .ref qmc, .int (nI szv), .ref qmb, .int (nI btv), .int (nI dm), .ref qml])), (qmb, .inl (cI, 10400, .inl mm))] sz)) (va_Qv (fun (u : Nat × Nat × (Nat → Int32)) => (u.1 = (bc + w + 7) / 8) ∧ (u.2.1 = (bc + w) % 8) ∧ (mB u.2.2 (bc + w) (bA B bc v w)) ∧ True) (fun u t => cfPost D ((fun (u : Nat × Nat × (Nat → Int32)) => [(qm, .inr (9, [.int cd, .int (nI n), .ref qmr, .int fm, .int (nI cm), .ref qmc, .int (nI u.1), .ref qmb, .int (nI u.2.1), .int (nI dm), .ref qml])), (qmb, .inl (cI, 10400, .inl u.2.2))]) u) (va_A [(qm, .inr (9, [.int cd, .int (nI n), .ref qmr, .int fm, .int (nI cm), .ref qmc, .int (nI szv), .ref qmb, .int (nI btv), .int (nI dm), .ref qml])), (qmb, .inl (cI, 10400, .inl mm))] sz) t) (va_A [(qm, .inr (9, [.int cd, .int (nI n), .ref qmr, .int fm, .int (nI cm), .ref qmc, .int (nI szv), .ref qmb, .int (nI btv), .int (nI dm), .ref qml])), (qmb, .inl (cI, 10400, .inl mm))] sz)) 0 0 (va_A [(qm, .inr (9, [.int cd, .int (nI n), .ref qmr, .int fm, .int (nI cm), .ref qmc, .int (nI szv), .ref qmb, .int (nI btv), .int (nI dm), .ref qml])), (qmb, .inl (cI, 10400, .inl mm))] sz) := by
  refine met_v (cc := cMo_number) (maxL := 5) (S := Nat × Nat × (Nat → Int32)) (D := D) (wO := fun (u : Nat × Nat × (Nat → Int32)) => [(qm, .inr (9, [.int cd, .int (nI n), .ref qmr, .int fm, .int (nI cm), .ref qmc, .int (nI u.1), .ref qmb, .int (nI u.2.1), .int (nI dm), .ref qml])), (qmb, .inl (cI, 10400, .inl u.2.2))]) (by decide) (Nat.le_of_ble_eq_true rfl) ?_
  intro p e s m below meth c hx hb hml hown hts hlocks hin hWd A hA hsz hP hK hD hS Q hret ls hl
  have hown : s.vm.findClass "ColumnFormsModel" = some m.cls := hown
  have hl : lv_has ls 5 [(0, .ref qm), (1, .long v), (3, .int (nI w))] := hl
  have hP : va_P D vwCl [(qm, .inr (9, [.int cd, .int (nI n), .ref qmr, .int fm, .int (nI cm), .ref qmc, .int (nI szv), .ref qmb, .int (nI btv), .int (nI dm), .ref qml])), (qmb, .inl (cI, 10400, .inl mm))] s.heap := hP
  refine lv_iload_n hx hb dMo_number_0 rfl (lv_at hl 2 rfl) ?_
  refine lv_iconst (v := nI 1) hx hb dMo_number_1 (by decide) ?_
  refine lv_isub hx hb dMo_number_2 ?_
  refine lv_istore (lv' := [(4, .int ((nI w) - (nI 1))), (0, .ref qm), (1, .long v), (3, .int (nI w))]) hx hb dMo_number_3 hl (by decide) rfl (fun ls hl => ?_)
  have lp : ∀ (k_lp : Nat) (j : Nat) (s1 : Nat) (b1 : Nat) (m1 : Nat → Int32), (j ≤ w) → (s1 = (bc + (w - j) + 7) / 8) → (b1 = (bc + (w - j)) % 8) → (mB m1 (bc + (w - j)) (bA B bc v w)) → (j < k_lp) → ∀ (H : Heap) (locs : List Loc) (ls : Array Slot), va_P D vwCl [(qm, .inr (9, [.int cd, .int (nI n), .ref qmr, .int fm, .int (nI cm), .ref qmc, .int (nI s1), .ref qmb, .int (nI b1), .int (nI dm), .ref qml])), (qmb, .inl (cI, 10400, .inl m1))] H → va_D A [(qm, .inr (9, [.int cd, .int (nI n), .ref qmr, .int fm, .int (nI cm), .ref qmc, .int (nI s1), .ref qmb, .int (nI b1), .int (nI dm), .ref qml])), (qmb, .inl (cI, 10400, .inl m1))] → va_S A s.heap H locs → lv_has ls 5 [(0, .ref qm), (1, .long v), (3, .int (nI w)), (4, .int ((nI j) - (nI 1)))] → W p l e ({ frames := 1, cells := 0, slots := 0, locals := 21 }) s m ([.ref qm, .long v, .int (nI w)].toArray) below meth c H locs (0) (0) Q (F0 m 5 ls []) := by
    intro k_lp
    induction k_lp with
    | zero => intro j s1 b1 m1 g1 g2 g3 g4 hfu; exact absurd hfu (by omega)
    | succ k_lp ih_lp =>
      intro j s1 b1 m1 g1 g2 g3 g4 hfu H locs ls hP hD hS hl
      refine lv_iload hx hb dMo_number_5 (lv_at hl 3 rfl) ?_
      refine lv_if_lt (tgt := 27) hx hb dMo_number_7 (by decide) (fun c7 => ?_) (fun c7 => ?_)
      · have hj := (nI_m1lt (by omega)).mp c7
        exact hret (s1, b1, m1) _ _ _ _ _ _ ⟨by show s1 = _; omega, by show b1 = _; omega, by rw [show bc + w = bc + (w - j) by omega]; exact g4, trivial⟩ (hP.sub [0, 1] rfl) (hD.sub [0, 1] (by decide) rfl) hS (Nat.le_of_ble_eq_true rfl) (Nat.le_of_ble_eq_true rfl) dMo_number_27
      · have hj : ¬ j = 0 := fun h => c7 ((nI_m1lt (by omega)).mpr h)
        rw [pk_sub (by omega)] at hl
        refine lv_aload_n hx hb dMo_number_10 rfl (lv_at hl 0 rfl) ?_
        refine lv_lload_n hx hb dMo_number_11 rfl (lv_at hl 1 rfl) ?_
        refine lv_iload hx hb dMo_number_12 (lv_at hl 3 rfl) ?_
        refine lv_lshr hx hb dMo_number_14 rfl ?_
        refine lv_lconst (v := 1) hx hb dMo_number_15 (by decide) ?_
        refine lv_land hx hb dMo_number_16 ?_
        refine lv_l2i hx hb dMo_number_17 rfl ?_
        refine tp_i (show (((v >>> ((nI (j - 1)).toInt64 &&& 63)) &&& 1).toInt32) = (nI (if bL v (j - 1) then 1 else 0)) from sh1_i v (by omega)) ?_
        refine kc_v (wc := [(qm, .inr (9, [.int cd, .int (nI n), .ref qmr, .int fm, .int (nI cm), .ref qmc, .int (nI s1), .ref qmb, .int (nI b1), .int (nI dm), .ref qml])), (qmb, .inl (cI, 10400, .inl m1))]) (wr := []) hP hD hS hA [0, 1] [] rfl rfl (by decide) (by decide) (by decide) (fun hPc hDc => va_runV (As := [.int (nI (if bL v (j - 1) then 1 else 0))]) (rest := []) ⟨hx, hb, hml, hown, hts⟩ (m_bit l D cJ cB cI cF qm cd n qmr fm cm qmc s1 qmb b1 dm qml m1 (bA B bc v w) (bc + (w - j)) (if bL v (j - 1) then 1 else 0) _ (g2) (g3) (g4) (b_num (by omega) g1) (by omega)) (cwV 1 hts (wsG_k tw_697 (wsG_k tw_699 (wsG_k tp_w22 (wsG_k tw_10 (wsG_c tw_700))))) rfl rfl rfl (by decide +kernel) ⟨Nat.le_of_ble_eq_true rfl, Nat.le_of_ble_eq_true rfl⟩) ⟨cf_blind, va_recv hK hPc (ci := 9) (q0 := 0) rfl rfl, cf_pre hPc hK hDc hWd⟩ rfl rfl hl.1 rfl (lv_room (Nat.le_of_ble_eq_true rfl)) dMo_number_18 ⟨Nat.le_of_ble_eq_true rfl, Nat.le_of_ble_eq_true rfl⟩) (fun u H locs hw hP hD hS => ?_)
        obtain ⟨s2_1, b2_2, m2_3⟩ := u
        obtain ⟨f1_4, f2_5, f9, -⟩ := hw
        have f1_4 : s2_1 = ((bc + (w - j)) + 1 + 7) / 8 := f1_4
        have f2_5 : b2_2 = ((bc + (w - j)) + 1) % 8 := f2_5
        have f9 : mB m2_3 ((bc + (w - j)) + 1) (bA B bc v w) := f9
        have hP : va_P D vwCl [(qm, .inr (9, [.int cd, .int (nI n), .ref qmr, .int fm, .int (nI cm), .ref qmc, .int (nI s2_1), .ref qmb, .int (nI b2_2), .int (nI dm), .ref qml])), (qmb, .inl (cI, 10400, .inl m2_3))] H := hP
        have hD : va_D A [(qm, .inr (9, [.int cd, .int (nI n), .ref qmr, .int fm, .int (nI cm), .ref qmc, .int (nI s2_1), .ref qmb, .int (nI b2_2), .int (nI dm), .ref qml])), (qmb, .inl (cI, 10400, .inl m2_3))] := hD
        refine lv_iinc (v := (nI (j - 1)) - (nI 1)) (lv' := [(4, .int ((nI (j - 1)) - (nI 1))), (0, .ref qm), (1, .long v), (3, .int (nI w))]) hx hb dMo_number_21 hl (k := 3) rfl (nI_m1 _) (by decide) rfl (fun ls hl => ?_)
        refine lv_goto (tgt := 5) hx hb dMo_number_24 (by decide) ?_
        exact ih_lp (j - 1) s2_1 b2_2 m2_3 (by omega) (by omega) (by omega) (by rw [show bc + (w - (j - 1)) = bc + (w - j) + 1 by omega]; exact f9) (by omega) _ _ _ (hP.sub [0, 1] rfl) (hD.sub [0, 1] (by decide) rfl) hS (lv_sub hl [1, 2, 3, 0] rfl)
  exact lp (w + 1) w szv btv mm (Nat.le_refl w) (by omega) (by omega) (by rw [Nat.sub_self]; exact mB_c hm (fun i hi => bA_lo hi)) (by omega) _ _ _ (hP.sub [0, 1] rfl) (hD.sub [0, 1] (by decide) rfl) hS (lv_sub hl [1, 2, 3, 0] rfl)

