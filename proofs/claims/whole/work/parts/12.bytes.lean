set_option maxHeartbeats 4000000 in
set_option maxRecDepth 100000 in
theorem c_blen (l : Launch) (D : va_G) (cJ cB cI cF : ClassId) (qb : Nat) (qo : Nat) (bc : Nat) (sz : Nat) (hb : bc ≤ 81936) : Met l yBy_length (Cond.code yBy_length cBy_length 1 (some .int) :: wsG) ({ frames := 1, cells := 0, slots := 0, locals := 20 }) (va_Pc [.ref qb] (cfPre D (cfT cJ cB cI cF) [(qb, .inr (0, [.ref qo, .int (nI bc)]))] sz)) (va_Qi (fun (r : Int32) (u : Unit) => r = nI ((bc + 7) / 8) ∧ True) (fun u t => cfPost D ((fun (u : Unit) => [(qb, .inr (0, [.ref qo, .int (nI bc)]))]) u) (va_A [(qb, .inr (0, [.ref qo, .int (nI bc)]))] sz) t) (va_A [(qb, .inr (0, [.ref qo, .int (nI bc)]))] sz)) 0 0 (va_A [(qb, .inr (0, [.ref qo, .int (nI bc)]))] sz) := by
  refine met_i (cc := cBy_length) (maxL := 1) (S := Unit) (D := D) (wO := fun (u : Unit) => [(qb, .inr (0, [.ref qo, .int (nI bc)]))]) (by decide) (Nat.le_of_ble_eq_true rfl) ?_
  intro p e s m below meth c hx hb hml hown hts hlocks hin hWd A hA hsz hP hK hD hS Q hret ls hl
  have hown : s.vm.findClass "ColumnForms$Bytes" = some m.cls := hown
  have hl : lv_has ls 1 [(0, .ref qb)] := hl
  have hP : va_P D vwCl [(qb, .inr (0, [.ref qo, .int (nI bc)]))] s.heap := hP
  refine lv_aload_n hx hb dBy_length_0 rfl (lv_at hl 0 rfl) ?_
  refine va_get (D := D) (ci := 0) (v := .int (nI bc)) (C := "ColumnForms$Bytes") (T := TBy) (N := 2) hx hb hts inBy hown hK hP 0 rfl rfl 1 (by decide) (hts _ tw_84) (fun _ h9 => h9) rfl dBy_length_1 ?_
  refine kc_i (wc := []) (wr := [(qb, .inr (0, [.ref qo, .int (nI bc)]))]) hP hD hS hA [] [0] rfl rfl (by decide) (by decide) (by decide) (fun hPc hDc => va_runSN (As := [.int (nI bc)]) (rest := []) ⟨hx, hb, hml, hown, hts⟩ (c_whole l D cJ cB cI cF bc _ (by omega)) (⟨va_cnB 1 hts (wsG_c tw_173) rfl rfl rfl (hWd.nest 12 rfl) (hts _ tw_1) (by decide +kernel) ⟨Nat.le_of_ble_eq_true rfl, Nat.le_of_ble_eq_true rfl⟩, hts _ tw_172, trivial⟩) ⟨cf_blind, cf_pre hPc hK hDc hWd⟩ rfl rfl hl.1 rfl (lv_room (Nat.le_of_ble_eq_true rfl)) dBy_length_4 ⟨Nat.le_of_ble_eq_true rfl, Nat.le_of_ble_eq_true rfl⟩) (fun r u H locs hw hP hD hS => ?_)
  obtain ⟨rfl, -⟩ := hw
  have hP : va_P D vwCl [(qb, .inr (0, [.ref qo, .int (nI bc)]))] H := hP
  have hD : va_D A [(qb, .inr (0, [.ref qo, .int (nI bc)]))] := hD
  exact hret (nI ((bc + 7) / 8)) () _ _ _ _ _ _ ⟨rfl, trivial⟩ (hP.sub [0] rfl) (hD.sub [0] (by decide) rfl) hS (Nat.le_of_ble_eq_true rfl) (Nat.le_of_ble_eq_true rfl) dBy_length_7

set_option maxHeartbeats 4000000 in
set_option maxRecDepth 100000 in
theorem c_octet (l : Launch) (D : va_G) (cJ cB cI cF : ClassId) (qb : Nat) (qo : Nat) (bc : Nat) (o : Nat → Int32) (i : Nat) (sz : Nat) (hi1 : i < 10242) : Met l yBy_octet (Cond.code yBy_octet cBy_octet 2 (some .int) :: wsG) ({ frames := 0, cells := 0, slots := 0, locals := 0 }) (va_Pc [.ref qb, .int (nI i)] (cfPre D (cfT cJ cB cI cF) [(qb, .inr (0, [.ref qo, .int (nI bc)])), (qo, .inl (cB, 10242, .inl o))] sz)) (va_Qi (fun (r : Int32) (u : Unit) => r = o i &&& 255 ∧ True) (fun u t => cfPost D ((fun (u : Unit) => [(qb, .inr (0, [.ref qo, .int (nI bc)])), (qo, .inl (cB, 10242, .inl o))]) u) (va_A [(qb, .inr (0, [.ref qo, .int (nI bc)])), (qo, .inl (cB, 10242, .inl o))] sz) t) (va_A [(qb, .inr (0, [.ref qo, .int (nI bc)])), (qo, .inl (cB, 10242, .inl o))] sz)) 0 0 (va_A [(qb, .inr (0, [.ref qo, .int (nI bc)])), (qo, .inl (cB, 10242, .inl o))] sz) := by
  refine met_i (cc := cBy_octet) (maxL := 2) (S := Unit) (D := D) (wO := fun (u : Unit) => [(qb, .inr (0, [.ref qo, .int (nI bc)])), (qo, .inl (cB, 10242, .inl o))]) (by decide) (Nat.le_of_ble_eq_true rfl) ?_
  intro p e s m below meth c hx hb hml hown hts hlocks hin hWd A hA hsz hP hK hD hS Q hret ls hl
  have hown : s.vm.findClass "ColumnForms$Bytes" = some m.cls := hown
  have hl : lv_has ls 2 [(0, .ref qb), (1, .int (nI i))] := hl
  have hP : va_P D vwCl [(qb, .inr (0, [.ref qo, .int (nI bc)])), (qo, .inl (cB, 10242, .inl o))] s.heap := hP
  refine lv_iload_n hx hb dBy_octet_0 rfl (lv_at hl 1 rfl) ?_
  refine lv_if_lt (tgt := 26) hx hb dBy_octet_1 (by decide) (fun c1 => ?_) (fun c1 => ?_)
  · have c1 : i < 0 := (nI_ltI (b := 0) (by omega) (by omega)).mp c1
    exact absurd c1 (by omega)
  · have c1 : ¬ i < 0 := fun h => c1 ((nI_ltI (b := 0) (by omega) (by omega)).mpr h)
    refine lv_iload_n hx hb dBy_octet_4 rfl (lv_at hl 1 rfl) ?_
    refine lv_aload_n hx hb dBy_octet_5 rfl (lv_at hl 0 rfl) ?_
    refine va_get (D := D) (ci := 0) (v := .ref qo) (C := "ColumnForms$Bytes") (T := TBy) (N := 2) hx hb hts inBy hown hK hP 0 rfl rfl 0 (by decide) (hts _ tw_83) (fun _ h9 => h9) rfl dBy_octet_6 ?_
    refine va_alen hx hb hK hP 1 1 rfl rfl (v := nI 10242) rfl dBy_octet_9 ?_
    refine lv_icmp_ge (tgt := 26) hx hb dBy_octet_10 (by decide) (fun c10 => ?_) (fun c10 => ?_)
    · have c10 : 10242 ≤ i := (nI_leI (by omega) (by omega)).mp c10
      exact absurd c10 (by omega)
    · have c10 : ¬ 10242 ≤ i := fun h => c10 ((nI_leI (by omega) (by omega)).mpr h)
      refine lv_aload_n hx hb dBy_octet_13 rfl (lv_at hl 0 rfl) ?_
      refine va_get (D := D) (ci := 0) (v := .ref qo) (C := "ColumnForms$Bytes") (T := TBy) (N := 2) hx hb hts inBy hown hK hP 0 rfl rfl 0 (by decide) (hts _ tw_83) (fun _ h9 => h9) rfl dBy_octet_14 ?_
      refine lv_iload_n hx hb dBy_octet_17 rfl (lv_at hl 1 rfl) ?_
      refine va_bald hx hb hK hP 1 1 rfl rfl (vp_in_nI (by omega) (by omega)) dBy_octet_18 ?_
      refine tp_i (show (o (nI i).toNatClampNeg) = (o i) from congrArg _ (nI_clamp (by omega))) ?_
      refine lv_sipush (v := nI 255) hx hb dBy_octet_19 (by decide) ?_
      refine lv_iand hx hb dBy_octet_22 ?_
      refine lv_goto (tgt := 27) hx hb dBy_octet_23 (by decide) ?_
      exact hret ((o i) &&& (nI 255)) () _ _ _ _ _ _ ⟨rfl, trivial⟩ (hP.sub [0, 1] rfl) (hD.sub [0, 1] (by decide) rfl) hS (Nat.le_of_ble_eq_true rfl) (Nat.le_of_ble_eq_true rfl) dBy_octet_27

set_option maxHeartbeats 4000000 in
set_option maxRecDepth 100000 in
theorem c_addLast (l : Launch) (D : va_G) (cJ cB cI cF : ClassId) (qb : Nat) (qo : Nat) (bc : Nat) (o : Nat → Int32) (B : Nat → Bool) (sf : Int32) (tk : Nat) (sz : Nat) (hc : oB o bc B) (h1 : 1 ≤ tk) (h8 : bc % 8 + tk ≤ 8) (hs : ∀ p, p < 8 → bt sf p = (decide (8 - bc % 8 - tk ≤ p) && (decide (p < 8 - bc % 8) && B (8 * (bc / 8) + 7 - p)))) (hbm : bc + tk ≤ 81936) : Met l yBy_addToLast (Cond.code yBy_addToLast cBy_addToLast 5 none :: wsG) ({ frames := 0, cells := 0, slots := 0, locals := 0 }) (va_Pc [.ref qb, .int sf, .int (nI tk)] (cfPre D (cfT cJ cB cI cF) [(qb, .inr (0, [.ref qo, .int (nI bc)])), (qo, .inl (cB, 10242, .inl o))] sz)) (va_Qv (fun (u : (Nat → Int32)) => (oB u (bc + tk) B) ∧ True) (fun u t => cfPost D ((fun (u : (Nat → Int32)) => [(qb, .inr (0, [.ref qo, .int (nI (bc + tk))])), (qo, .inl (cB, 10242, .inl u))]) u) (va_A [(qb, .inr (0, [.ref qo, .int (nI bc)])), (qo, .inl (cB, 10242, .inl o))] sz) t) (va_A [(qb, .inr (0, [.ref qo, .int (nI bc)])), (qo, .inl (cB, 10242, .inl o))] sz)) 0 0 (va_A [(qb, .inr (0, [.ref qo, .int (nI bc)])), (qo, .inl (cB, 10242, .inl o))] sz) := by
  refine met_v (cc := cBy_addToLast) (maxL := 5) (S := (Nat → Int32)) (D := D) (wO := fun (u : (Nat → Int32)) => [(qb, .inr (0, [.ref qo, .int (nI (bc + tk))])), (qo, .inl (cB, 10242, .inl u))]) (by decide) (Nat.le_of_ble_eq_true rfl) ?_
  intro p e s m below meth c hx hb hml hown hts hlocks hin hWd A hA hsz hP hK hD hS Q hret ls hl
  have hown : s.vm.findClass "ColumnForms$Bytes" = some m.cls := hown
  have hl : lv_has ls 5 [(0, .ref qb), (1, .int sf), (2, .int (nI tk))] := hl
  have hP : va_P D vwCl [(qb, .inr (0, [.ref qo, .int (nI bc)])), (qo, .inl (cB, 10242, .inl o))] s.heap := hP
  refine lv_aload_n hx hb dBy_addToLast_0 rfl (lv_at hl 0 rfl) ?_
  refine va_get (D := D) (ci := 0) (v := .int (nI bc)) (C := "ColumnForms$Bytes") (T := TBy) (N := 2) hx hb hts inBy hown hK hP 0 rfl rfl 1 (by decide) (hts _ tw_84) (fun _ h9 => h9) rfl dBy_addToLast_1 ?_
  refine lv_iconst (v := nI 3) hx hb dBy_addToLast_4 (by decide) ?_
  refine lv_ishr hx hb dBy_addToLast_5 ?_
  refine tp_i (show ((nI bc) >>> ((nI 3) &&& 31)) = (nI (bc / 8)) from pk_shrN (by omega) _ 3 (by decide)) ?_
  refine lv_istore_n (lv' := [(3, .int (nI (bc / 8))), (0, .ref qb), (1, .int sf), (2, .int (nI tk))]) hx hb dBy_addToLast_6 rfl hl (by decide) rfl (fun ls hl => ?_)
  refine lv_iload_n hx hb dBy_addToLast_7 rfl (lv_at hl 0 rfl) ?_
  refine lv_aload_n hx hb dBy_addToLast_8 rfl (lv_at hl 1 rfl) ?_
  refine va_get (D := D) (ci := 0) (v := .ref qo) (C := "ColumnForms$Bytes") (T := TBy) (N := 2) hx hb hts inBy hown hK hP 0 rfl rfl 0 (by decide) (hts _ tw_83) (fun _ h9 => h9) rfl dBy_addToLast_9 ?_
  refine va_alen hx hb hK hP 1 1 rfl rfl (v := nI 10242) rfl dBy_addToLast_12 ?_
  refine lv_icmp_lt (tgt := 17) hx hb dBy_addToLast_13 (by decide) (fun c13 => ?_) (fun c13 => ?_)
  · have c13 : (bc / 8) < 10242 := (nI_ltI (by omega) (by omega)).mp c13
    refine lv_aload_n hx hb dBy_addToLast_17 rfl (lv_at hl 1 rfl) ?_
    refine va_get (D := D) (ci := 0) (v := .int (nI bc)) (C := "ColumnForms$Bytes") (T := TBy) (N := 2) hx hb hts inBy hown hK hP 0 rfl rfl 1 (by decide) (hts _ tw_84) (fun _ h9 => h9) rfl dBy_addToLast_18 ?_
    refine lv_bipush (v := nI 7) hx hb dBy_addToLast_21 (by decide) ?_
    refine lv_iand hx hb dBy_addToLast_23 ?_
    refine tp_i (show ((nI bc) &&& (nI 7)) = (nI (bc % 8)) from pk_andN (by omega) 3 (by decide)) ?_
    refine lv_if_ne (tgt := 31) hx hb dBy_addToLast_24 (by decide) (fun c24 => ?_) (fun c24 => ?_)
    · have c24 : ¬ (bc % 8) = 0 := fun h => c24 ((nI_eq (b := 0) (by omega) (by omega)).mpr h)
      refine lv_aload_n hx hb dBy_addToLast_31 rfl (lv_at hl 1 rfl) ?_
      refine va_get (D := D) (ci := 0) (v := .ref qo) (C := "ColumnForms$Bytes") (T := TBy) (N := 2) hx hb hts inBy hown hK hP 0 rfl rfl 0 (by decide) (hts _ tw_83) (fun _ h9 => h9) rfl dBy_addToLast_32 ?_
      refine lv_iload_n hx hb dBy_addToLast_35 rfl (lv_at hl 0 rfl) ?_
      refine va_bald hx hb hK hP 1 1 rfl rfl (vp_in_nI (by omega) (by omega)) dBy_addToLast_36 ?_
      refine tp_i (show (o (nI (bc / 8)).toNatClampNeg) = (o (bc / 8)) from congrArg _ (nI_clamp (by omega))) ?_
      refine lv_istore (lv' := [(4, .int (o (bc / 8))), (3, .int (nI (bc / 8))), (0, .ref qb), (1, .int sf), (2, .int (nI tk))]) hx hb dBy_addToLast_37 hl (by decide) rfl (fun ls hl => ?_)
      refine lv_aload_n hx hb dBy_addToLast_39 rfl (lv_at hl 2 rfl) ?_
      refine va_get (D := D) (ci := 0) (v := .ref qo) (C := "ColumnForms$Bytes") (T := TBy) (N := 2) hx hb hts inBy hown hK hP 0 rfl rfl 0 (by decide) (hts _ tw_83) (fun _ h9 => h9) rfl dBy_addToLast_40 ?_
      refine lv_iload_n hx hb dBy_addToLast_43 rfl (lv_at hl 1 rfl) ?_
      refine lv_iload hx hb dBy_addToLast_44 (lv_at hl 0 rfl) ?_
      refine lv_iload_n hx hb dBy_addToLast_46 rfl (lv_at hl 3 rfl) ?_
      refine lv_ior hx hb dBy_addToLast_47 ?_
      refine lv_i2b hx hb dBy_addToLast_48 rfl ?_
      refine va_bast hx hb hK hP hD hS 1 1 rfl rfl (vp_in_nI (by omega) (by omega)) dBy_addToLast_49 (fun H locs hP hD hS => ?_)
      rw [nI_clamp (by omega)] at hP hD
      have hP : va_P D vwCl [(qb, .inr (0, [.ref qo, .int (nI bc)])), (qo, .inl (cB, 10242, .inl (upd o (bc / 8) (vp_nar .byte (((o (bc / 8)) ||| sf).toInt8.toInt32)))))] H := hP
      have hD : va_D A [(qb, .inr (0, [.ref qo, .int (nI bc)])), (qo, .inl (cB, 10242, .inl (upd o (bc / 8) (vp_nar .byte (((o (bc / 8)) ||| sf).toInt8.toInt32)))))] := hD
      refine lv_aload_n hx hb dBy_addToLast_50 rfl (lv_at hl 2 rfl) ?_
      refine lv_dup hx hb dBy_addToLast_51 rfl ?_
      refine va_get (D := D) (ci := 0) (v := .int (nI bc)) (C := "ColumnForms$Bytes") (T := TBy) (N := 2) hx hb hts inBy hown hK hP 0 rfl rfl 1 (by decide) (hts _ tw_84) (fun _ h9 => h9) rfl dBy_addToLast_52 ?_
      refine lv_iload_n hx hb dBy_addToLast_55 rfl (lv_at hl 4 rfl) ?_
      refine lv_iadd hx hb dBy_addToLast_56 ?_
      refine tp_i (show ((nI bc) + (nI tk)) = (nI (bc + tk)) from nI_add _ _) ?_
      refine va_put (D := D) (ci := 0) (v := .int (nI (bc + tk))) (ty := .int) (C := "ColumnForms$Bytes") (T := TBy) (N := 2) hx hb hts inBy tyBy tyBy_ok nmBy hown hK hP hD hS 0 rfl rfl 1 (by decide) (hts _ tw_84) (fun _ h9 => h9) rfl (by decide +kernel) rfl rfl (Nat.le_of_ble_eq_true rfl) dBy_addToLast_57 (fun H locs hP hD hS => ?_)
      have hP : va_P D vwCl [(qb, .inr (0, [.ref qo, .int (nI (bc + tk))])), (qo, .inl (cB, 10242, .inl (upd o (bc / 8) (vp_nar .byte (((o (bc / 8)) ||| sf).toInt8.toInt32)))))] H := hP
      have hD : va_D A [(qb, .inr (0, [.ref qo, .int (nI (bc + tk))])), (qo, .inl (cB, 10242, .inl (upd o (bc / 8) (vp_nar .byte (((o (bc / 8)) ||| sf).toInt8.toInt32)))))] := hD
      exact hret (upd o (bc / 8) (vp_nar .byte (((o (bc / 8)) ||| sf).toInt8.toInt32))) _ _ _ _ _ _ ⟨by have h9 := oB_add hc h1 h8 hs; rw [if_neg c24] at h9; exact h9, trivial⟩ (hP.sub [0, 1] rfl) (hD.sub [0, 1] (by decide) rfl) hS (Nat.le_of_ble_eq_true rfl) (Nat.le_of_ble_eq_true rfl) dBy_addToLast_60
    · have c24 : (bc % 8) = 0 := (nI_eq (b := 0) (by omega) (by omega)).mp c24
      refine lv_iconst (v := nI 0) hx hb dBy_addToLast_27 (by decide) ?_
      refine lv_goto (tgt := 37) hx hb dBy_addToLast_28 (by decide) ?_
      refine lv_istore (lv' := [(4, .int (nI 0)), (3, .int (nI (bc / 8))), (0, .ref qb), (1, .int sf), (2, .int (nI tk))]) hx hb dBy_addToLast_37 hl (by decide) rfl (fun ls hl => ?_)
      refine lv_aload_n hx hb dBy_addToLast_39 rfl (lv_at hl 2 rfl) ?_
      refine va_get (D := D) (ci := 0) (v := .ref qo) (C := "ColumnForms$Bytes") (T := TBy) (N := 2) hx hb hts inBy hown hK hP 0 rfl rfl 0 (by decide) (hts _ tw_83) (fun _ h9 => h9) rfl dBy_addToLast_40 ?_
      refine lv_iload_n hx hb dBy_addToLast_43 rfl (lv_at hl 1 rfl) ?_
      refine lv_iload hx hb dBy_addToLast_44 (lv_at hl 0 rfl) ?_
      refine lv_iload_n hx hb dBy_addToLast_46 rfl (lv_at hl 3 rfl) ?_
      refine lv_ior hx hb dBy_addToLast_47 ?_
      refine lv_i2b hx hb dBy_addToLast_48 rfl ?_
      refine va_bast hx hb hK hP hD hS 1 1 rfl rfl (vp_in_nI (by omega) (by omega)) dBy_addToLast_49 (fun H locs hP hD hS => ?_)
      rw [nI_clamp (by omega)] at hP hD
      have hP : va_P D vwCl [(qb, .inr (0, [.ref qo, .int (nI bc)])), (qo, .inl (cB, 10242, .inl (upd o (bc / 8) (vp_nar .byte (((nI 0) ||| sf).toInt8.toInt32)))))] H := hP
      have hD : va_D A [(qb, .inr (0, [.ref qo, .int (nI bc)])), (qo, .inl (cB, 10242, .inl (upd o (bc / 8) (vp_nar .byte (((nI 0) ||| sf).toInt8.toInt32)))))] := hD
      refine lv_aload_n hx hb dBy_addToLast_50 rfl (lv_at hl 2 rfl) ?_
      refine lv_dup hx hb dBy_addToLast_51 rfl ?_
      refine va_get (D := D) (ci := 0) (v := .int (nI bc)) (C := "ColumnForms$Bytes") (T := TBy) (N := 2) hx hb hts inBy hown hK hP 0 rfl rfl 1 (by decide) (hts _ tw_84) (fun _ h9 => h9) rfl dBy_addToLast_52 ?_
      refine lv_iload_n hx hb dBy_addToLast_55 rfl (lv_at hl 4 rfl) ?_
      refine lv_iadd hx hb dBy_addToLast_56 ?_
      refine tp_i (show ((nI bc) + (nI tk)) = (nI (bc + tk)) from nI_add _ _) ?_
      refine va_put (D := D) (ci := 0) (v := .int (nI (bc + tk))) (ty := .int) (C := "ColumnForms$Bytes") (T := TBy) (N := 2) hx hb hts inBy tyBy tyBy_ok nmBy hown hK hP hD hS 0 rfl rfl 1 (by decide) (hts _ tw_84) (fun _ h9 => h9) rfl (by decide +kernel) rfl rfl (Nat.le_of_ble_eq_true rfl) dBy_addToLast_57 (fun H locs hP hD hS => ?_)
      have hP : va_P D vwCl [(qb, .inr (0, [.ref qo, .int (nI (bc + tk))])), (qo, .inl (cB, 10242, .inl (upd o (bc / 8) (vp_nar .byte (((nI 0) ||| sf).toInt8.toInt32)))))] H := hP
      have hD : va_D A [(qb, .inr (0, [.ref qo, .int (nI (bc + tk))])), (qo, .inl (cB, 10242, .inl (upd o (bc / 8) (vp_nar .byte (((nI 0) ||| sf).toInt8.toInt32)))))] := hD
      exact hret (upd o (bc / 8) (vp_nar .byte (((nI 0) ||| sf).toInt8.toInt32))) _ _ _ _ _ _ ⟨by have h9 := oB_add hc h1 h8 hs; rw [if_pos c24] at h9; exact h9, trivial⟩ (hP.sub [0, 1] rfl) (hD.sub [0, 1] (by decide) rfl) hS (Nat.le_of_ble_eq_true rfl) (Nat.le_of_ble_eq_true rfl) dBy_addToLast_60
  · have c13 : ¬ (bc / 8) < 10242 := fun h => c13 ((nI_ltI (by omega) (by omega)).mpr h)
    exact absurd c13 (by omega)

set_option maxHeartbeats 4000000 in
set_option maxRecDepth 100000 in
theorem c_append (l : Launch) (D : va_G) (cJ cB cI cF : ClassId) (qb : Nat) (qo : Nat) (bc : Nat) (o : Nat → Int32) (B : Nat → Bool) (v : Int64) (w : Nat) (sz : Nat) (hc : oB o bc B) (hw : w ≤ 64) (hbm : bc + w ≤ 81936) : Met l yBy_append (Cond.code yBy_append cBy_append 9 none :: wsG) ({ frames := 1, cells := 0, slots := 0, locals := 24 }) (va_Pc [.ref qb, .long v, .int (nI w)] (cfPre D (cfT cJ cB cI cF) [(qb, .inr (0, [.ref qo, .int (nI bc)])), (qo, .inl (cB, 10242, .inl o))] sz)) (va_Qv (fun (u : (Nat → Int32)) => (oB u (bc + w) (bA B bc v w)) ∧ True) (fun u t => cfPost D ((fun (u : (Nat → Int32)) => [(qb, .inr (0, [.ref qo, .int (nI (bc + w))])), (qo, .inl (cB, 10242, .inl u))]) u) (va_A [(qb, .inr (0, [.ref qo, .int (nI bc)])), (qo, .inl (cB, 10242, .inl o))] sz) t) (va_A [(qb, .inr (0, [.ref qo, .int (nI bc)])), (qo, .inl (cB, 10242, .inl o))] sz)) 0 0 (va_A [(qb, .inr (0, [.ref qo, .int (nI bc)])), (qo, .inl (cB, 10242, .inl o))] sz) := by
  refine met_v (cc := cBy_append) (maxL := 9) (S := (Nat → Int32)) (D := D) (wO := fun (u : (Nat → Int32)) => [(qb, .inr (0, [.ref qo, .int (nI (bc + w))])), (qo, .inl (cB, 10242, .inl u))]) (by decide) (Nat.le_of_ble_eq_true rfl) ?_
  intro p e s m below meth c hx hb hml hown hts hlocks hin hWd A hA hsz hP hK hD hS Q hret ls hl
  have hown : s.vm.findClass "ColumnForms$Bytes" = some m.cls := hown
  have hl : lv_has ls 9 [(0, .ref qb), (1, .long v), (3, .int (nI w))] := hl
  have hP : va_P D vwCl [(qb, .inr (0, [.ref qo, .int (nI bc)])), (qo, .inl (cB, 10242, .inl o))] s.heap := hP
  refine lv_iload_n hx hb dBy_append_0 rfl (lv_at hl 2 rfl) ?_
  refine lv_istore (lv' := [(4, .int (nI w)), (0, .ref qb), (1, .long v), (3, .int (nI w))]) hx hb dBy_append_1 hl (by decide) rfl (fun ls hl => ?_)
  refine lv_iconst (v := nI 0) hx hb dBy_append_3 (by decide) ?_
  refine lv_istore (lv' := [(5, .int (nI 0)), (4, .int (nI w)), (0, .ref qb), (1, .long v), (3, .int (nI w))]) hx hb dBy_append_4 hl (by decide) rfl (fun ls hl => ?_)
  have lp : ∀ (k_lp : Nat) (tn : Nat) (lf : Nat) (b1 : Nat) (o1 : Nat → Int32), (b1 + lf = bc + w) → (lf ≤ w) → (tn ≤ 9) → ((tn = 0 ∧ b1 = bc) ∨ lf = 0 ∨ b1 = 8 * (bc / 8) + 8 * tn) → (oB o1 b1 (bA B bc v w)) → (9 - tn < k_lp) → ∀ (H : Heap) (locs : List Loc) (ls : Array Slot), va_P D vwCl [(qb, .inr (0, [.ref qo, .int (nI b1)])), (qo, .inl (cB, 10242, .inl o1))] H → va_D A [(qb, .inr (0, [.ref qo, .int (nI b1)])), (qo, .inl (cB, 10242, .inl o1))] → va_S A s.heap H locs → lv_has ls 9 [(0, .ref qb), (1, .long v), (3, .int (nI w)), (4, .int (nI lf)), (5, .int (nI tn))] → W p l e ({ frames := 1, cells := 0, slots := 0, locals := 24 }) s m ([.ref qb, .long v, .int (nI w)].toArray) below meth c H locs (0) (0) Q (F0 m 6 ls []) := by
    intro k_lp
    induction k_lp with
    | zero => intro tn lf b1 o1 g1 g2 g3 g4 g5 hfu; exact absurd hfu (by omega)
    | succ k_lp ih_lp =>
      intro tn lf b1 o1 g1 g2 g3 g4 g5 hfu H locs ls hP hD hS hl
      refine lv_iload hx hb dBy_append_6 (lv_at hl 4 rfl) ?_
      refine lv_bipush (v := nI 9) hx hb dBy_append_8 (by decide) ?_
      refine lv_icmp_ge (tgt := 80) hx hb dBy_append_10 (by decide) (fun c10 => ?_) (fun c10 => ?_)
      · have c10 : 9 ≤ tn := (nI_leI (by omega) (by omega)).mp c10
        have hlf : lf = 0 := by omega
        subst hlf
        have hb1 : b1 = bc + w := by omega
        subst hb1
        exact hret (o1) _ _ _ _ _ _ ⟨g5, trivial⟩ (hP.sub [0, 1] rfl) (hD.sub [0, 1] (by decide) rfl) hS (Nat.le_of_ble_eq_true rfl) (Nat.le_of_ble_eq_true rfl) dBy_append_80
      · have c10 : ¬ 9 ≤ tn := fun h => c10 ((nI_leI (by omega) (by omega)).mpr h)
        refine lv_iload hx hb dBy_append_13 (lv_at hl 3 rfl) ?_
        refine lv_if_le (tgt := 80) hx hb dBy_append_15 (by decide) (fun c15 => ?_) (fun c15 => ?_)
        · have c15 : lf ≤ 0 := (nI_leI (b := 0) (by omega) (by omega)).mp c15
          have hlf : lf = 0 := by omega
          subst hlf
          have hb1 : b1 = bc + w := by omega
          subst hb1
          exact hret (o1) _ _ _ _ _ _ ⟨g5, trivial⟩ (hP.sub [0, 1] rfl) (hD.sub [0, 1] (by decide) rfl) hS (Nat.le_of_ble_eq_true rfl) (Nat.le_of_ble_eq_true rfl) dBy_append_80
        · have c15 : ¬ lf ≤ 0 := fun h => c15 ((nI_leI (b := 0) (by omega) (by omega)).mpr h)
          refine lv_bipush (v := nI 8) hx hb dBy_append_18 (by decide) ?_
          refine lv_aload_n hx hb dBy_append_20 rfl (lv_at hl 0 rfl) ?_
          refine va_get (D := D) (ci := 0) (v := .int (nI b1)) (C := "ColumnForms$Bytes") (T := TBy) (N := 2) hx hb hts inBy hown hK hP 0 rfl rfl 1 (by decide) (hts _ tw_84) (fun _ h9 => h9) rfl dBy_append_21 ?_
          refine lv_bipush (v := nI 7) hx hb dBy_append_24 (by decide) ?_
          refine lv_iand hx hb dBy_append_26 ?_
          refine tp_i (show ((nI b1) &&& (nI 7)) = (nI (b1 % 8)) from pk_andN (by omega) 3 (by decide)) ?_
          refine lv_isub hx hb dBy_append_27 ?_
          refine tp_i (show ((nI 8) - (nI (b1 % 8))) = (nI (8 - (b1 % 8))) from pk_sub (by omega)) ?_
          refine lv_istore (lv' := [(6, .int (nI (8 - (b1 % 8)))), (0, .ref qb), (1, .long v), (3, .int (nI w)), (4, .int (nI lf)), (5, .int (nI tn))]) hx hb dBy_append_28 hl (by decide) rfl (fun ls hl => ?_)
          refine lv_iload hx hb dBy_append_30 (lv_at hl 0 rfl) ?_
          refine lv_iload hx hb dBy_append_32 (lv_at hl 4 rfl) ?_
          obtain ⟨tk, htk⟩ : ∃ z, z = min (8 - (b1 % 8)) lf := ⟨_, rfl⟩
          refine va_mmin hx hb (hml.trans hl.1.symm) hown (hts _ tw_398) (hts _ tw_399) (hts _ tw_15) (hts _ tw_400) (Nat.le_of_ble_eq_true rfl) (Nat.le_of_ble_eq_true rfl) (Nat.le_of_ble_eq_true rfl) (Nat.le_of_ble_eq_true rfl) dBy_append_34 ?_
          refine tp_i (show (if (nI lf) < (nI (8 - (b1 % 8))) then (nI lf) else (nI (8 - (b1 % 8)))) = (nI tk) from by rw [htk]; exact nI_mn (by omega) (by omega)) ?_
          refine lv_istore (lv' := [(7, .int (nI tk)), (6, .int (nI (8 - (b1 % 8)))), (0, .ref qb), (1, .long v), (3, .int (nI w)), (4, .int (nI lf)), (5, .int (nI tn))]) hx hb dBy_append_37 hl (by decide) rfl (fun ls hl => ?_)
          refine lv_iload hx hb dBy_append_39 (lv_at hl 5 rfl) ?_
          refine lv_iload hx hb dBy_append_41 (lv_at hl 0 rfl) ?_
          refine lv_isub hx hb dBy_append_43 ?_
          refine tp_i (show ((nI lf) - (nI tk)) = (nI (lf - tk)) from pk_sub (by omega)) ?_
          refine lv_istore (lv' := [(4, .int (nI (lf - tk))), (7, .int (nI tk)), (6, .int (nI (8 - (b1 % 8)))), (0, .ref qb), (1, .long v), (3, .int (nI w)), (5, .int (nI tn))]) hx hb dBy_append_44 hl (by decide) rfl (fun ls hl => ?_)
          refine lv_lload_n hx hb dBy_append_46 rfl (lv_at hl 4 rfl) ?_
          refine lv_iload hx hb dBy_append_47 (lv_at hl 0 rfl) ?_
          refine lv_lushr hx hb dBy_append_49 rfl ?_
          refine lv_l2i hx hb dBy_append_50 rfl ?_
          refine lv_iconst (v := nI 1) hx hb dBy_append_51 (by decide) ?_
          refine lv_iload hx hb dBy_append_52 (lv_at hl 1 rfl) ?_
          refine lv_ishl hx hb dBy_append_54 ?_
          refine lv_iconst (v := nI 1) hx hb dBy_append_55 (by decide) ?_
          refine lv_isub hx hb dBy_append_56 ?_
          refine lv_iand hx hb dBy_append_57 ?_
          refine lv_istore (lv' := [(8, .int ((((v.toUInt64 >>> ((nI (lf - tk)).toInt64.toUInt64 &&& Int64.toUInt64 63)).toInt64).toInt32) &&& (((nI 1) <<< ((nI tk) &&& 31)) - (nI 1)))), (4, .int (nI (lf - tk))), (7, .int (nI tk)), (6, .int (nI (8 - (b1 % 8)))), (0, .ref qb), (1, .long v), (3, .int (nI w)), (5, .int (nI tn))]) hx hb dBy_append_58 hl (by decide) rfl (fun ls hl => ?_)
          refine lv_aload_n hx hb dBy_append_60 rfl (lv_at hl 4 rfl) ?_
          refine lv_iload hx hb dBy_append_61 (lv_at hl 0 rfl) ?_
          refine lv_iload hx hb dBy_append_63 (lv_at hl 3 rfl) ?_
          refine lv_iload hx hb dBy_append_65 (lv_at hl 2 rfl) ?_
          refine lv_isub hx hb dBy_append_67 ?_
          refine tp_i (show ((nI (8 - (b1 % 8))) - (nI tk)) = (nI ((8 - (b1 % 8)) - tk)) from pk_sub (by omega)) ?_
          refine lv_ishl hx hb dBy_append_68 ?_
          refine lv_iload hx hb dBy_append_69 (lv_at hl 2 rfl) ?_
          refine kc_v (wc := [(qb, .inr (0, [.ref qo, .int (nI b1)])), (qo, .inl (cB, 10242, .inl o1))]) (wr := []) hP hD hS hA [0, 1] [] rfl rfl (by decide) (by decide) (by decide) (fun hPc hDc => va_runV (As := [.int (((((v.toUInt64 >>> ((nI (lf - tk)).toInt64.toUInt64 &&& Int64.toUInt64 63)).toInt64).toInt32) &&& (((nI 1) <<< ((nI tk) &&& 31)) - (nI 1))) <<< ((nI ((8 - (b1 % 8)) - tk)) &&& 31)), .int (nI tk)]) (rest := []) ⟨hx, hb, hml, hown, hts⟩ (c_addLast l D cJ cB cI cF qb qo b1 o1 (bA B bc v w) (((((v.toUInt64 >>> ((nI (lf - tk)).toInt64.toUInt64 &&& Int64.toUInt64 63)).toInt64).toInt32) &&& (((nI 1) <<< ((nI tk) &&& 31)) - (nI 1))) <<< ((nI ((8 - (b1 % 8)) - tk)) &&& 31)) tk _ (g5) (by omega) (by omega) (ap_piece hw g1 g2 (by omega) (by omega) (by omega)) (by omega)) (cwV 2 hts (wsG_k tw_401 (wsG_k tw_403 (wsG_k tp_w7 (wsG_k tw_3 (wsG_c tw_404))))) rfl rfl rfl (by decide +kernel) ⟨Nat.le_of_ble_eq_true rfl, Nat.le_of_ble_eq_true rfl⟩) ⟨cf_blind, va_recv hK hPc (ci := 0) (q0 := 0) rfl rfl, cf_pre hPc hK hDc hWd⟩ rfl rfl hl.1 rfl (lv_room (Nat.le_of_ble_eq_true rfl)) dBy_append_71 ⟨Nat.le_of_ble_eq_true rfl, Nat.le_of_ble_eq_true rfl⟩) (fun u H locs hw hP hD hS => ?_)
          obtain ⟨o2, rfl⟩ : ∃ z, z = u := ⟨u, rfl⟩
          obtain ⟨f9, -⟩ := hw
          have f9 : oB o2 (b1 + tk) (bA B bc v w) := f9
          have hP : va_P D vwCl [(qb, .inr (0, [.ref qo, .int (nI (b1 + tk))])), (qo, .inl (cB, 10242, .inl o2))] H := hP
          have hD : va_D A [(qb, .inr (0, [.ref qo, .int (nI (b1 + tk))])), (qo, .inl (cB, 10242, .inl o2))] := hD
          refine lv_iinc (v := nI (tn + 1)) (lv' := [(5, .int (nI (tn + 1))), (8, .int ((((v.toUInt64 >>> ((nI (lf - tk)).toInt64.toUInt64 &&& Int64.toUInt64 63)).toInt64).toInt32) &&& (((nI 1) <<< ((nI tk) &&& 31)) - (nI 1)))), (4, .int (nI (lf - tk))), (7, .int (nI tk)), (6, .int (nI (8 - (b1 % 8)))), (0, .ref qb), (1, .long v), (3, .int (nI w))]) hx hb dBy_append_74 hl (k := 7) rfl (by rw [show (Int32.ofInt 1) = nI 1 from by decide]; exact nI_add _ _) (by decide) rfl (fun ls hl => ?_)
          refine lv_goto (tgt := 6) hx hb dBy_append_77 (by decide) ?_
          exact ih_lp (tn + 1) (lf - tk) (b1 + tk) o2 (by omega) (by omega) (by omega) (by omega) (f9) (by omega) _ _ _ (hP.sub [0, 1] rfl) (hD.sub [0, 1] (by decide) rfl) hS (lv_sub hl [5, 6, 7, 2, 0] rfl)
  exact lp (9 - 0 + 1) 0 w bc o (rfl) (Nat.le_refl w) (by omega) (Or.inl ⟨rfl, rfl⟩) (oB_congr hc (fun i hi => bA_lo hi)) (by omega) _ _ _ (hP.sub [0, 1] rfl) (hD.sub [0, 1] (by decide) rfl) hS (lv_sub hl [2, 3, 4, 1, 0] rfl)

set_option maxHeartbeats 4000000 in
set_option maxRecDepth 100000 in
theorem c_bitsAt (l : Launch) (D : va_G) (cJ cB cI cF : ClassId) (qb : Nat) (qo : Nat) (bc : Nat) (o : Nat → Int32) (B : Nat → Bool) (a : Nat) (w : Nat) (vv : Int64) (sz : Nat) (hc : oB o bc B) (hbm : bc ≤ 81936) (hw : w ≤ 64) (ha : a + w ≤ bc) (hf : fld B a w vv) (hsm : ∀ t, w ≤ t → bL vv t = false) : Met l yBy_bitsAt (Cond.code yBy_bitsAt cBy_bitsAt 11 (some .long) :: wsG) ({ frames := 1, cells := 0, slots := 0, locals := 21 }) (va_Pc [.ref qb, .int (nI a), .int (nI w)] (cfPre D (cfT cJ cB cI cF) [(qb, .inr (0, [.ref qo, .int (nI bc)])), (qo, .inl (cB, 10242, .inl o))] sz)) (va_Ql (fun (r : Int64) (u : Unit) => r = vv ∧ True) (fun u t => cfPost D ((fun (u : Unit) => [(qb, .inr (0, [.ref qo, .int (nI bc)])), (qo, .inl (cB, 10242, .inl o))]) u) (va_A [(qb, .inr (0, [.ref qo, .int (nI bc)])), (qo, .inl (cB, 10242, .inl o))] sz) t) (va_A [(qb, .inr (0, [.ref qo, .int (nI bc)])), (qo, .inl (cB, 10242, .inl o))] sz)) 0 0 (va_A [(qb, .inr (0, [.ref qo, .int (nI bc)])), (qo, .inl (cB, 10242, .inl o))] sz) := by
  refine met_l (cc := cBy_bitsAt) (maxL := 11) (S := Unit) (D := D) (wO := fun (u : Unit) => [(qb, .inr (0, [.ref qo, .int (nI bc)])), (qo, .inl (cB, 10242, .inl o))]) (by decide) (Nat.le_of_ble_eq_true rfl) ?_
  intro p e s m below meth c hx hb hml hown hts hlocks hin hWd A hA hsz hP hK hD hS Q hret ls hl
  have hown : s.vm.findClass "ColumnForms$Bytes" = some m.cls := hown
  have hl : lv_has ls 11 [(0, .ref qb), (1, .int (nI a)), (2, .int (nI w))] := hl
  have hP : va_P D vwCl [(qb, .inr (0, [.ref qo, .int (nI bc)])), (qo, .inl (cB, 10242, .inl o))] s.heap := hP
  refine lv_lconst (v := 0) hx hb dBy_bitsAt_0 (by decide) ?_
  refine lv_lstore_n (lv' := [(3, .long 0), (0, .ref qb), (1, .int (nI a)), (2, .int (nI w))]) hx hb dBy_bitsAt_1 rfl hl (by decide) rfl (fun ls hl => ?_)
  refine lv_iload_n hx hb dBy_bitsAt_2 rfl (lv_at hl 2 rfl) ?_
  refine lv_istore (lv' := [(5, .int (nI a)), (3, .long 0), (0, .ref qb), (1, .int (nI a)), (2, .int (nI w))]) hx hb dBy_bitsAt_3 hl (by decide) rfl (fun ls hl => ?_)
  refine lv_iload_n hx hb dBy_bitsAt_5 rfl (lv_at hl 4 rfl) ?_
  refine lv_istore (lv' := [(6, .int (nI w)), (5, .int (nI a)), (3, .long 0), (0, .ref qb), (1, .int (nI a)), (2, .int (nI w))]) hx hb dBy_bitsAt_6 hl (by decide) rfl (fun ls hl => ?_)
  refine lv_iconst (v := nI 0) hx hb dBy_bitsAt_8 (by decide) ?_
  refine lv_istore (lv' := [(7, .int (nI 0)), (6, .int (nI w)), (5, .int (nI a)), (3, .long 0), (0, .ref qb), (1, .int (nI a)), (2, .int (nI w))]) hx hb dBy_bitsAt_9 hl (by decide) rfl (fun ls hl => ?_)
  have lp : ∀ (k_lp : Nat) (tn : Nat) (lf : Nat) (b1 : Nat) (vl : Int64), (b1 + lf = a + w) → (lf ≤ w) → (tn ≤ 9) → ((tn = 0 ∧ b1 = a) ∨ lf = 0 ∨ b1 = 8 * (a / 8) + 8 * tn) → (rdV B a (w - lf) vl) → (9 - tn < k_lp) → ∀ (H : Heap) (locs : List Loc) (ls : Array Slot), va_P D vwCl [(qb, .inr (0, [.ref qo, .int (nI bc)])), (qo, .inl (cB, 10242, .inl o))] H → va_D A [(qb, .inr (0, [.ref qo, .int (nI bc)])), (qo, .inl (cB, 10242, .inl o))] → va_S A s.heap H locs → lv_has ls 11 [(0, .ref qb), (1, .int (nI a)), (2, .int (nI w)), (3, .long vl), (5, .int (nI b1)), (6, .int (nI lf)), (7, .int (nI tn))] → W p l e ({ frames := 1, cells := 0, slots := 0, locals := 21 }) s m ([.ref qb, .int (nI a), .int (nI w)].toArray) below meth c H locs (0) (0) Q (F0 m 11 ls []) := by
    intro k_lp
    induction k_lp with
    | zero => intro tn lf b1 vl g1 g2 g3 g4 g5 hfu; exact absurd hfu (by omega)
    | succ k_lp ih_lp =>
      intro tn lf b1 vl g1 g2 g3 g4 g5 hfu H locs ls hP hD hS hl
      refine lv_iload hx hb dBy_bitsAt_11 (lv_at hl 6 rfl) ?_
      refine lv_bipush (v := nI 9) hx hb dBy_bitsAt_13 (by decide) ?_
      refine lv_icmp_ge (tgt := 94) hx hb dBy_bitsAt_15 (by decide) (fun c15 => ?_) (fun c15 => ?_)
      · have c15 : 9 ≤ tn := (nI_leI (by omega) (by omega)).mp c15
        refine lv_lload_n hx hb dBy_bitsAt_94 rfl (lv_at hl 3 rfl) ?_
        exact hret vl () _ _ _ _ _ _ ⟨rdV_end g5 (by omega) hf hsm, trivial⟩ (hP.sub [0, 1] rfl) (hD.sub [0, 1] (by decide) rfl) hS (Nat.le_of_ble_eq_true rfl) (Nat.le_of_ble_eq_true rfl) dBy_bitsAt_95
      · have c15 : ¬ 9 ≤ tn := fun h => c15 ((nI_leI (by omega) (by omega)).mpr h)
        refine lv_iload hx hb dBy_bitsAt_18 (lv_at hl 5 rfl) ?_
        refine lv_if_le (tgt := 94) hx hb dBy_bitsAt_20 (by decide) (fun c20 => ?_) (fun c20 => ?_)
        · have c20 : lf ≤ 0 := (nI_leI (b := 0) (by omega) (by omega)).mp c20
          refine lv_lload_n hx hb dBy_bitsAt_94 rfl (lv_at hl 3 rfl) ?_
          exact hret vl () _ _ _ _ _ _ ⟨rdV_end g5 (by omega) hf hsm, trivial⟩ (hP.sub [0, 1] rfl) (hD.sub [0, 1] (by decide) rfl) hS (Nat.le_of_ble_eq_true rfl) (Nat.le_of_ble_eq_true rfl) dBy_bitsAt_95
        · have c20 : ¬ lf ≤ 0 := fun h => c20 ((nI_leI (b := 0) (by omega) (by omega)).mpr h)
          refine lv_bipush (v := nI 8) hx hb dBy_bitsAt_23 (by decide) ?_
          refine lv_iload hx hb dBy_bitsAt_25 (lv_at hl 4 rfl) ?_
          refine lv_bipush (v := nI 7) hx hb dBy_bitsAt_27 (by decide) ?_
          refine lv_iand hx hb dBy_bitsAt_29 ?_
          refine tp_i (show ((nI b1) &&& (nI 7)) = (nI (b1 % 8)) from pk_andN (by omega) 3 (by decide)) ?_
          refine lv_isub hx hb dBy_bitsAt_30 ?_
          refine tp_i (show ((nI 8) - (nI (b1 % 8))) = (nI (8 - (b1 % 8))) from pk_sub (by omega)) ?_
          refine lv_istore (lv' := [(8, .int (nI (8 - (b1 % 8)))), (0, .ref qb), (1, .int (nI a)), (2, .int (nI w)), (3, .long vl), (5, .int (nI b1)), (6, .int (nI lf)), (7, .int (nI tn))]) hx hb dBy_bitsAt_31 hl (by decide) rfl (fun ls hl => ?_)
          refine lv_iload hx hb dBy_bitsAt_33 (lv_at hl 0 rfl) ?_
          refine lv_iload hx hb dBy_bitsAt_35 (lv_at hl 6 rfl) ?_
          obtain ⟨tk, htk⟩ : ∃ z, z = min (8 - (b1 % 8)) lf := ⟨_, rfl⟩
          refine va_mmin hx hb (hml.trans hl.1.symm) hown (hts _ tw_398) (hts _ tw_399) (hts _ tw_15) (hts _ tw_400) (Nat.le_of_ble_eq_true rfl) (Nat.le_of_ble_eq_true rfl) (Nat.le_of_ble_eq_true rfl) (Nat.le_of_ble_eq_true rfl) dBy_bitsAt_37 ?_
          refine tp_i (show (if (nI lf) < (nI (8 - (b1 % 8))) then (nI lf) else (nI (8 - (b1 % 8)))) = (nI tk) from by rw [htk]; exact nI_mn (by omega) (by omega)) ?_
          refine lv_istore (lv' := [(9, .int (nI tk)), (8, .int (nI (8 - (b1 % 8)))), (0, .ref qb), (1, .int (nI a)), (2, .int (nI w)), (3, .long vl), (5, .int (nI b1)), (6, .int (nI lf)), (7, .int (nI tn))]) hx hb dBy_bitsAt_40 hl (by decide) rfl (fun ls hl => ?_)
          refine lv_aload_n hx hb dBy_bitsAt_42 rfl (lv_at hl 2 rfl) ?_
          refine lv_iload hx hb dBy_bitsAt_43 (lv_at hl 6 rfl) ?_
          refine lv_iconst (v := nI 3) hx hb dBy_bitsAt_45 (by decide) ?_
          refine lv_ishr hx hb dBy_bitsAt_46 ?_
          refine tp_i (show ((nI b1) >>> ((nI 3) &&& 31)) = (nI (b1 / 8)) from pk_shrN (by omega) _ 3 (by decide)) ?_
          refine kc_i (wc := [(qb, .inr (0, [.ref qo, .int (nI bc)])), (qo, .inl (cB, 10242, .inl o))]) (wr := []) hP hD hS hA [0, 1] [] rfl rfl (by decide) (by decide) (by decide) (fun hPc hDc => va_runV (As := [.int (nI (b1 / 8))]) (rest := []) ⟨hx, hb, hml, hown, hts⟩ (c_octet l D cJ cB cI cF qb qo bc o (b1 / 8) _ (by omega)) (cwV 1 hts (wsG_k tw_468 (wsG_k tw_444 (wsG_k tw_445 (wsG_k tw_3 (wsG_c tw_446))))) rfl rfl rfl (by decide +kernel) ⟨Nat.le_of_ble_eq_true rfl, Nat.le_of_ble_eq_true rfl⟩) ⟨cf_blind, va_recv hK hPc (ci := 0) (q0 := 0) rfl rfl, cf_pre hPc hK hDc hWd⟩ rfl rfl hl.1 rfl (lv_room (Nat.le_of_ble_eq_true rfl)) dBy_bitsAt_47 ⟨Nat.le_of_ble_eq_true rfl, Nat.le_of_ble_eq_true rfl⟩) (fun r u H locs hw hP hD hS => ?_)
          obtain ⟨rfl, -⟩ := hw
          have hP : va_P D vwCl [(qb, .inr (0, [.ref qo, .int (nI bc)])), (qo, .inl (cB, 10242, .inl o))] H := hP
          have hD : va_D A [(qb, .inr (0, [.ref qo, .int (nI bc)])), (qo, .inl (cB, 10242, .inl o))] := hD
          refine lv_iload hx hb dBy_bitsAt_50 (lv_at hl 1 rfl) ?_
          refine lv_iload hx hb dBy_bitsAt_52 (lv_at hl 0 rfl) ?_
          refine lv_isub hx hb dBy_bitsAt_54 ?_
          refine tp_i (show ((nI (8 - (b1 % 8))) - (nI tk)) = (nI ((8 - (b1 % 8)) - tk)) from pk_sub (by omega)) ?_
          refine lv_iushr hx hb dBy_bitsAt_55 rfl ?_
          refine lv_iconst (v := nI 1) hx hb dBy_bitsAt_56 (by decide) ?_
          refine lv_iload hx hb dBy_bitsAt_57 (lv_at hl 0 rfl) ?_
          refine lv_ishl hx hb dBy_bitsAt_59 ?_
          refine lv_iconst (v := nI 1) hx hb dBy_bitsAt_60 (by decide) ?_
          refine lv_isub hx hb dBy_bitsAt_61 ?_
          refine lv_iand hx hb dBy_bitsAt_62 ?_
          refine lv_istore (lv' := [(10, .int ((((o (b1 / 8) &&& 255).toUInt32 >>> ((nI ((8 - (b1 % 8)) - tk)).toUInt32 &&& Int32.toUInt32 31)).toInt32) &&& (((nI 1) <<< ((nI tk) &&& 31)) - (nI 1)))), (9, .int (nI tk)), (8, .int (nI (8 - (b1 % 8)))), (0, .ref qb), (1, .int (nI a)), (2, .int (nI w)), (3, .long vl), (5, .int (nI b1)), (6, .int (nI lf)), (7, .int (nI tn))]) hx hb dBy_bitsAt_63 hl (by decide) rfl (fun ls hl => ?_)
          refine lv_lload_n hx hb dBy_bitsAt_65 rfl (lv_at hl 6 rfl) ?_
          refine lv_iload hx hb dBy_bitsAt_66 (lv_at hl 1 rfl) ?_
          refine lv_lshl hx hb dBy_bitsAt_68 rfl ?_
          refine lv_iload hx hb dBy_bitsAt_69 (lv_at hl 0 rfl) ?_
          refine lv_i2l hx hb dBy_bitsAt_71 rfl ?_
          refine lv_lor hx hb dBy_bitsAt_72 ?_
          refine lv_lstore_n (lv' := [(3, .long ((vl <<< ((nI tk).toInt64 &&& 63)) ||| (((((o (b1 / 8) &&& 255).toUInt32 >>> ((nI ((8 - (b1 % 8)) - tk)).toUInt32 &&& Int32.toUInt32 31)).toInt32) &&& (((nI 1) <<< ((nI tk) &&& 31)) - (nI 1))).toInt64))), (10, .int ((((o (b1 / 8) &&& 255).toUInt32 >>> ((nI ((8 - (b1 % 8)) - tk)).toUInt32 &&& Int32.toUInt32 31)).toInt32) &&& (((nI 1) <<< ((nI tk) &&& 31)) - (nI 1)))), (9, .int (nI tk)), (8, .int (nI (8 - (b1 % 8)))), (0, .ref qb), (1, .int (nI a)), (2, .int (nI w)), (5, .int (nI b1)), (6, .int (nI lf)), (7, .int (nI tn))]) hx hb dBy_bitsAt_73 rfl hl (by decide) rfl (fun ls hl => ?_)
          refine lv_iload hx hb dBy_bitsAt_74 (lv_at hl 7 rfl) ?_
          refine lv_iload hx hb dBy_bitsAt_76 (lv_at hl 2 rfl) ?_
          refine lv_iadd hx hb dBy_bitsAt_78 ?_
          refine tp_i (show ((nI b1) + (nI tk)) = (nI (b1 + tk)) from nI_add _ _) ?_
          refine lv_istore (lv' := [(5, .int (nI (b1 + tk))), (3, .long ((vl <<< ((nI tk).toInt64 &&& 63)) ||| (((((o (b1 / 8) &&& 255).toUInt32 >>> ((nI ((8 - (b1 % 8)) - tk)).toUInt32 &&& Int32.toUInt32 31)).toInt32) &&& (((nI 1) <<< ((nI tk) &&& 31)) - (nI 1))).toInt64))), (10, .int ((((o (b1 / 8) &&& 255).toUInt32 >>> ((nI ((8 - (b1 % 8)) - tk)).toUInt32 &&& Int32.toUInt32 31)).toInt32) &&& (((nI 1) <<< ((nI tk) &&& 31)) - (nI 1)))), (9, .int (nI tk)), (8, .int (nI (8 - (b1 % 8)))), (0, .ref qb), (1, .int (nI a)), (2, .int (nI w)), (6, .int (nI lf)), (7, .int (nI tn))]) hx hb dBy_bitsAt_79 hl (by decide) rfl (fun ls hl => ?_)
          refine lv_iload hx hb dBy_bitsAt_81 (lv_at hl 8 rfl) ?_
          refine lv_iload hx hb dBy_bitsAt_83 (lv_at hl 3 rfl) ?_
          refine lv_isub hx hb dBy_bitsAt_85 ?_
          refine tp_i (show ((nI lf) - (nI tk)) = (nI (lf - tk)) from pk_sub (by omega)) ?_
          refine lv_istore (lv' := [(6, .int (nI (lf - tk))), (5, .int (nI (b1 + tk))), (3, .long ((vl <<< ((nI tk).toInt64 &&& 63)) ||| (((((o (b1 / 8) &&& 255).toUInt32 >>> ((nI ((8 - (b1 % 8)) - tk)).toUInt32 &&& Int32.toUInt32 31)).toInt32) &&& (((nI 1) <<< ((nI tk) &&& 31)) - (nI 1))).toInt64))), (10, .int ((((o (b1 / 8) &&& 255).toUInt32 >>> ((nI ((8 - (b1 % 8)) - tk)).toUInt32 &&& Int32.toUInt32 31)).toInt32) &&& (((nI 1) <<< ((nI tk) &&& 31)) - (nI 1)))), (9, .int (nI tk)), (8, .int (nI (8 - (b1 % 8)))), (0, .ref qb), (1, .int (nI a)), (2, .int (nI w)), (7, .int (nI tn))]) hx hb dBy_bitsAt_86 hl (by decide) rfl (fun ls hl => ?_)
          refine lv_iinc (v := nI (tn + 1)) (lv' := [(7, .int (nI (tn + 1))), (6, .int (nI (lf - tk))), (5, .int (nI (b1 + tk))), (3, .long ((vl <<< ((nI tk).toInt64 &&& 63)) ||| (((((o (b1 / 8) &&& 255).toUInt32 >>> ((nI ((8 - (b1 % 8)) - tk)).toUInt32 &&& Int32.toUInt32 31)).toInt32) &&& (((nI 1) <<< ((nI tk) &&& 31)) - (nI 1))).toInt64))), (10, .int ((((o (b1 / 8) &&& 255).toUInt32 >>> ((nI ((8 - (b1 % 8)) - tk)).toUInt32 &&& Int32.toUInt32 31)).toInt32) &&& (((nI 1) <<< ((nI tk) &&& 31)) - (nI 1)))), (9, .int (nI tk)), (8, .int (nI (8 - (b1 % 8)))), (0, .ref qb), (1, .int (nI a)), (2, .int (nI w))]) hx hb dBy_bitsAt_88 hl (k := 9) rfl (by rw [show (Int32.ofInt 1) = nI 1 from by decide]; exact nI_add _ _) (by decide) rfl (fun ls hl => ?_)
          refine lv_goto (tgt := 11) hx hb dBy_bitsAt_91 (by decide) ?_
          exact ih_lp (tn + 1) (lf - tk) (b1 + tk) ((vl <<< ((nI tk).toInt64 &&& 63)) ||| (((((o (b1 / 8) &&& 255).toUInt32 >>> ((nI ((8 - (b1 % 8)) - tk)).toUInt32 &&& Int32.toUInt32 31)).toInt32) &&& (((nI 1) <<< ((nI tk) &&& 31)) - (nI 1))).toInt64)) (by omega) (by omega) (by omega) (by omega) (by rw [show w - (lf - tk) = w - lf + tk by omega]; exact rd_piece hc (by omega) (by omega) (by omega) (by omega) (by omega) g5) (by omega) _ _ _ (hP.sub [0, 1] rfl) (hD.sub [0, 1] (by decide) rfl) hS (lv_sub hl [7, 8, 9, 3, 2, 1, 0] rfl)
  exact lp (9 - 0 + 1) 0 w a 0 (rfl) (Nat.le_refl w) (by omega) (Or.inl ⟨rfl, rfl⟩) (by rw [Nat.sub_self]; exact rdV_0 B a) (by omega) _ _ _ (hP.sub [0, 1] rfl) (hD.sub [0, 1] (by decide) rfl) hS (lv_sub hl [4, 5, 6, 3, 2, 1, 0] rfl)

