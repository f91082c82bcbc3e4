set_option maxHeartbeats 4000000 in
set_option maxRecDepth 100000 in
theorem lh_C {p : Program} {l : Launch} {e : Env} {s : State} {m : MethodId} {below : List Frame} {meth : Method} {c : Code} {b L : Nat} {sc : Nat → Int32} {A : Nat → Prop} {D : va_G} {cJ cB cI cF : ClassId} (C0 : lwCx p l s m meth c b L sc A D cJ cB cI cF) {i : Nat} (hi : i ≤ 3072) (kC : i + 6 ≤ L → stC p l e s m below meth c b A D cJ cB cI cF 23 (i + 6) (i + 6)) : stC p l e s m below meth c b A D cJ cB cI cF 23 i i := by
  have C1 := C0
  obtain ⟨⟨hx, hb, hr, hml, hown, hts0, hXs, hbl, hlocks, hgv⟩, hl0, hWd, hK, hX, hA, hAr, hL⟩ := C0
  have hts : ∀ w ∈ wsG, w.before #[Value.ref b] s = true := fun w h => hts0 w (wsG_in w h)
  have hbA : ¬ A b := fun h => absurd (hAr b h) (by omega)
  have hown : s.vm.findClass "ColumnFormsLaw" = some m.cls := hown
  intro qx qr qc qs qb qo qA ff q0 q1 q2 q3 q4 qt g n d rn lo hi sl sh xs rs o qz wz qm qmr qmc qmb qml cd dm lm yM mm kc mC ys bc B szv btv H locs ls uc us hF hR hkc hm0 hm1 hc hLf hbm hmB hsz hyy hP hD hS hl huc hus
  refine lv_iload hx hb dLaw_23 (lv_at hl 4 rfl) ?_
  refine lv_aload_n hx hb dLaw_25 rfl (lv_at hl 0 rfl) ?_
  refine va_slen hx hb hXs hbl hbA hS dLaw_26 ?_
  refine tp_i (show Int32.ofNat L = nI L from rfl) ?_
  refine lv_bipush (v := nI 6) hx hb dLaw_27 (by decide) ?_
  refine lv_isub hx hb dLaw_29 ?_
  refine lv_icmp_gt (tgt := 879) hx hb dLaw_30 (by decide) (fun c30 => ?_) (fun c30 => ?_)
  · have hlt := (lw_cmp hL (by omega)).mp c30
    refine lv_iconst (v := 1) hx hb dLaw_879 (by decide) ?_
    refine va_forget (fun q hq => hAr _ (hS.2.2 q hq)) ?_
    refine W.widen (k := 601024) (n := 7293034) (by omega) (by omega) ?_
    exact lw_ret hx hb hr hlocks dLaw_880
  · have hi6 : i + 6 ≤ L := Nat.not_lt.mp (fun h => c30 ((lw_cmp hL (by omega)).mpr h))
    have kC9 : stC p l e s m below meth c b A D cJ cB cI cF 873 i (i + 6) := by
      intro qx qr qc qs qb qo qA ff q0 q1 q2 q3 q4 qt g n d rn lo hi sl sh xs rs o qz wz qm qmr qmc qmb qml cd dm lm yM mm kc mC ys bc B szv btv H locs ls uc us hF hR hkc hm0 hm1 hc hLf hbm hmB hsz hyy hP hD hS hl huc hus
      refine lv_iinc (v := nI (i + 6)) (lv' := [(4, .int (nI (i + 6))), (0, .ref b), (1, .ref qx), (2, .ref qm), (3, .ref qz)]) hx hb dLaw_873 hl (k := 4) rfl (by rw [show (Int32.ofInt 6) = nI 6 from by decide]; exact nI_add _ _) (by decide) rfl (fun ls hl => ?_)
      refine lv_goto (tgt := 23) hx hb dLaw_876 (by decide) ?_
      exact kC hi6 qx qr qc qs qb qo qA ff q0 q1 q2 q3 q4 qt g n d rn lo hi sl sh xs rs o qz wz qm qmr qmc qmb qml cd dm lm yM mm kc mC ys bc B szv btv _ _ _ _ _ hF hR hkc hm0 hm1 hc hLf hbm hmB hsz hyy hP hD hS (lv_sub hl [1, 2, 3, 4, 0] rfl) (by omega) (by omega)
    refine lv_aload_n hx hb dLaw_33 rfl (lv_at hl 0 rfl) ?_
    refine lv_iload hx hb dLaw_34 (lv_at hl 4 rfl) ?_
    refine va_sld hx hb hXs hbl hbA hS (vp_in_nI (by omega) (by omega)) dLaw_36 ?_
    refine tp_i (show (sc (nI i).toNatClampNeg) = (sc i) from congrArg sc (nI_clamp (by omega))) ?_
    refine lv_bipush (v := nI 15) hx hb dLaw_37 (by decide) ?_
    refine lv_iand hx hb dLaw_39 ?_
    obtain ⟨j, hj, ej⟩ := and15 (sc i)
    refine tp_i ej ?_
    rcases (show j = 0 ∨ j = 1 ∨ j = 2 ∨ j = 3 ∨ j = 4 ∨ j = 5 ∨ j = 6 ∨ j = 7 ∨ j = 8 ∨ j = 9 ∨ j = 10 ∨ j = 11 ∨ j = 12 ∨ j = 13 ∨ j = 14 ∨ j = 15 by omega) with rfl | rfl | rfl | rfl | rfl | rfl | rfl | rfl | rfl | rfl | rfl | rfl | rfl | rfl | rfl | rfl
    · refine lv_tableIn (x := nI 0) (tgt := 104) hx hb dLaw_40 (by decide) (by decide) rfl (by decide) ?_
      exact la_C_put C1 hi6 kC9 kC9 qx qr qc qs qb qo qA ff q0 q1 q2 q3 q4 qt g n d rn lo hi sl sh xs rs o qz wz qm qmr qmc qmb qml cd dm lm yM mm kc mC ys bc B szv btv _ _ _ _ _ hF hR hkc hm0 hm1 hc hLf hbm hmB hsz hyy hP hD hS hl huc hus
    · refine lv_tableIn (x := nI 1) (tgt := 192) hx hb dLaw_40 (by decide) (by decide) rfl (by decide) ?_
      exact la_C_fill C1 hi6 kC9 kC9 qx qr qc qs qb qo qA ff q0 q1 q2 q3 q4 qt g n d rn lo hi sl sh xs rs o qz wz qm qmr qmc qmb qml cd dm lm yM mm kc mC ys bc B szv btv _ _ _ _ _ hF hR hkc hm0 hm1 hc hLf hbm hmB hsz hyy hP hD hS hl huc hus
    · refine lv_tableIn (x := nI 2) (tgt := 336) hx hb dLaw_40 (by decide) (by decide) rfl (by decide) ?_
      exact la_C_clear C1 hi6 kC9 kC9 qx qr qc qs qb qo qA ff q0 q1 q2 q3 q4 qt g n d rn lo hi sl sh xs rs o qz wz qm qmr qmc qmb qml cd dm lm yM mm kc mC ys bc B szv btv _ _ _ _ _ hF hR hkc hm0 hm1 hc hLf hbm hmB hsz hyy hP hD hS hl huc hus
    · refine lv_tableIn (x := nI 3) (tgt := 349) hx hb dLaw_40 (by decide) (by decide) rfl (by decide) ?_
      exact la_C_weight C1 hi6 kC9 kC9 qx qr qc qs qb qo qA ff q0 q1 q2 q3 q4 qt g n d rn lo hi sl sh xs rs o qz wz qm qmr qmc qmb qml cd dm lm yM mm kc mC ys bc B szv btv _ _ _ _ _ hF hR hkc hm0 hm1 hc hLf hbm hmB hsz hyy hP hD hS hl huc hus
    · refine lv_tableIn (x := nI 4) (tgt := 405) hx hb dLaw_40 (by decide) (by decide) rfl (by decide) ?_
      exact la_C_write C1 hi6 kC9 kC9 qx qr qc qs qb qo qA ff q0 q1 q2 q3 q4 qt g n d rn lo hi sl sh xs rs o qz wz qm qmr qmc qmb qml cd dm lm yM mm kc mC ys bc B szv btv _ _ _ _ _ hF hR hkc hm0 hm1 hc hLf hbm hmB hsz hyy hP hD hS hl huc hus
    · refine lv_tableIn (x := nI 5) (tgt := 449) hx hb dLaw_40 (by decide) (by decide) rfl (by decide) ?_
      exact la_C_writeAs C1 hi6 kC9 kC9 qx qr qc qs qb qo qA ff q0 q1 q2 q3 q4 qt g n d rn lo hi sl sh xs rs o qz wz qm qmr qmc qmb qml cd dm lm yM mm kc mC ys bc B szv btv _ _ _ _ _ hF hR hkc hm0 hm1 hc hLf hbm hmB hsz hyy hP hD hS hl huc hus
    · refine lv_tableIn (x := nI 6) (tgt := 505) hx hb dLaw_40 (by decide) (by decide) rfl (by decide) ?_
      exact la_C_form C1 hi6 kC9 kC9 qx qr qc qs qb qo qA ff q0 q1 q2 q3 q4 qt g n d rn lo hi sl sh xs rs o qz wz qm qmr qmc qmb qml cd dm lm yM mm kc mC ys bc B szv btv _ _ _ _ _ hF hR hkc hm0 hm1 hc hLf hbm hmB hsz hyy hP hD hS hl huc hus
    · refine lv_tableIn (x := nI 7) (tgt := 518) hx hb dLaw_40 (by decide) (by decide) rfl (by decide) ?_
      exact la_C_size C1 hi6 kC9 kC9 qx qr qc qs qb qo qA ff q0 q1 q2 q3 q4 qt g n d rn lo hi sl sh xs rs o qz wz qm qmr qmc qmb qml cd dm lm yM mm kc mC ys bc B szv btv _ _ _ _ _ hF hR hkc hm0 hm1 hc hLf hbm hmB hsz hyy hP hD hS hl huc hus
    · refine lv_tableIn (x := nI 8) (tgt := 531) hx hb dLaw_40 (by decide) (by decide) rfl (by decide) ?_
      exact la_C_byteAt C1 hi6 kC9 kC9 qx qr qc qs qb qo qA ff q0 q1 q2 q3 q4 qt g n d rn lo hi sl sh xs rs o qz wz qm qmr qmc qmb qml cd dm lm yM mm kc mC ys bc B szv btv _ _ _ _ _ hF hR hkc hm0 hm1 hc hLf hbm hmB hsz hyy hP hD hS hl huc hus
    · refine lv_tableIn (x := nI 9) (tgt := 587) hx hb dLaw_40 (by decide) (by decide) rfl (by decide) ?_
      exact la_C_cell C1 hi6 kC9 kC9 qx qr qc qs qb qo qA ff q0 q1 q2 q3 q4 qt g n d rn lo hi sl sh xs rs o qz wz qm qmr qmc qmb qml cd dm lm yM mm kc mC ys bc B szv btv _ _ _ _ _ hF hR hkc hm0 hm1 hc hLf hbm hmB hsz hyy hP hD hS hl huc hus
    · refine lv_tableIn (x := nI 10) (tgt := 642) hx hb dLaw_40 (by decide) (by decide) rfl (by decide) ?_
      exact la_C_count C1 hi6 kC9 kC9 qx qr qc qs qb qo qA ff q0 q1 q2 q3 q4 qt g n d rn lo hi sl sh xs rs o qz wz qm qmr qmc qmb qml cd dm lm yM mm kc mC ys bc B szv btv _ _ _ _ _ hF hR hkc hm0 hm1 hc hLf hbm hmB hsz hyy hP hD hS hl huc hus
    · refine lv_tableIn (x := nI 11) (tgt := 742) hx hb dLaw_40 (by decide) (by decide) rfl (by decide) ?_
      exact la_C_sum C1 hi6 kC9 kC9 qx qr qc qs qb qo qA ff q0 q1 q2 q3 q4 qt g n d rn lo hi sl sh xs rs o qz wz qm qmr qmc qmb qml cd dm lm yM mm kc mC ys bc B szv btv _ _ _ _ _ hF hR hkc hm0 hm1 hc hLf hbm hmB hsz hyy hP hD hS hl huc hus
    · refine lv_tableOut (x := nI 12) (tgt := 873) hx hb dLaw_40 (Or.inr (by decide)) (by decide) ?_
      exact kC9 qx qr qc qs qb qo qA ff q0 q1 q2 q3 q4 qt g n d rn lo hi sl sh xs rs o qz wz qm qmr qmc qmb qml cd dm lm yM mm kc mC ys bc B szv btv _ _ _ _ _ hF hR hkc hm0 hm1 hc hLf hbm hmB hsz hyy hP hD hS hl (by omega) (by omega)
    · refine lv_tableOut (x := nI 13) (tgt := 873) hx hb dLaw_40 (Or.inr (by decide)) (by decide) ?_
      exact kC9 qx qr qc qs qb qo qA ff q0 q1 q2 q3 q4 qt g n d rn lo hi sl sh xs rs o qz wz qm qmr qmc qmb qml cd dm lm yM mm kc mC ys bc B szv btv _ _ _ _ _ hF hR hkc hm0 hm1 hc hLf hbm hmB hsz hyy hP hD hS hl (by omega) (by omega)
    · refine lv_tableOut (x := nI 14) (tgt := 873) hx hb dLaw_40 (Or.inr (by decide)) (by decide) ?_
      exact kC9 qx qr qc qs qb qo qA ff q0 q1 q2 q3 q4 qt g n d rn lo hi sl sh xs rs o qz wz qm qmr qmc qmb qml cd dm lm yM mm kc mC ys bc B szv btv _ _ _ _ _ hF hR hkc hm0 hm1 hc hLf hbm hmB hsz hyy hP hD hS hl (by omega) (by omega)
    · refine lv_tableOut (x := nI 15) (tgt := 873) hx hb dLaw_40 (Or.inr (by decide)) (by decide) ?_
      exact kC9 qx qr qc qs qb qo qA ff q0 q1 q2 q3 q4 qt g n d rn lo hi sl sh xs rs o qz wz qm qmr qmc qmb qml cd dm lm yM mm kc mC ys bc B szv btv _ _ _ _ _ hF hR hkc hm0 hm1 hc hLf hbm hmB hsz hyy hP hD hS hl (by omega) (by omega)

theorem lp_C {p : Program} {l : Launch} {e : Env} {s : State} {m : MethodId} {below : List Frame} {meth : Method} {c : Code} {b L : Nat} {sc : Nat → Int32} {A : Nat → Prop} {D : va_G} {cJ cB cI cF : ClassId} (C0 : lwCx p l s m meth c b L sc A D cJ cB cI cF) : ∀ (f i : Nat), i ≤ L → L - i < f → stC p l e s m below meth c b A D cJ cB cI cF 23 i i
  | 0, i, _, h => absurd h (by omega)
  | f + 1, i, h1, h2 => lh_C C0 (by have := C0.2.2.2.2.2.2.2; omega) (fun h => lp_C C0 f (i + 6) h (by omega))

set_option maxHeartbeats 4000000 in
set_option maxRecDepth 100000 in
theorem lh_N {p : Program} {l : Launch} {e : Env} {s : State} {m : MethodId} {below : List Frame} {meth : Method} {c : Code} {b L : Nat} {sc : Nat → Int32} {A : Nat → Prop} {D : va_G} {cJ cB cI cF : ClassId} (C0 : lwCx p l s m meth c b L sc A D cJ cB cI cF) {i : Nat} (hi : i ≤ 3072) (kN : i + 6 ≤ L → stN p l e s m below meth c b A D cJ cB cI cF 23 (i + 6) (i + 6)) (kC : i + 6 ≤ L → stC p l e s m below meth c b A D cJ cB cI cF 23 (i + 6) (i + 6)) : stN p l e s m below meth c b A D cJ cB cI cF 23 i i := by
  have C1 := C0
  obtain ⟨⟨hx, hb, hr, hml, hown, hts0, hXs, hbl, hlocks, hgv⟩, hl0, hWd, hK, hX, hA, hAr, hL⟩ := C0
  have hts : ∀ w ∈ wsG, w.before #[Value.ref b] s = true := fun w h => hts0 w (wsG_in w h)
  have hbA : ¬ A b := fun h => absurd (hAr b h) (by omega)
  have hown : s.vm.findClass "ColumnFormsLaw" = some m.cls := hown
  intro qx qr qc qs qb qo qA ff q0 q1 q2 q3 q4 qt g n d rn lo hi sl sh xs rs o qz wz qm qmr qmc qmb qml cd dm lm yM mm H locs ls uc us hF hR hP hD hS hl huc hus
  refine lv_iload hx hb dLaw_23 (lv_at hl 4 rfl) ?_
  refine lv_aload_n hx hb dLaw_25 rfl (lv_at hl 0 rfl) ?_
  refine va_slen hx hb hXs hbl hbA hS dLaw_26 ?_
  refine tp_i (show Int32.ofNat L = nI L from rfl) ?_
  refine lv_bipush (v := nI 6) hx hb dLaw_27 (by decide) ?_
  refine lv_isub hx hb dLaw_29 ?_
  refine lv_icmp_gt (tgt := 879) hx hb dLaw_30 (by decide) (fun c30 => ?_) (fun c30 => ?_)
  · have hlt := (lw_cmp hL (by omega)).mp c30
    refine lv_iconst (v := 1) hx hb dLaw_879 (by decide) ?_
    refine va_forget (fun q hq => hAr _ (hS.2.2 q hq)) ?_
    refine W.widen (k := 601024) (n := 7293034) (by omega) (by omega) ?_
    exact lw_ret hx hb hr hlocks dLaw_880
  · have hi6 : i + 6 ≤ L := Nat.not_lt.mp (fun h => c30 ((lw_cmp hL (by omega)).mpr h))
    have kN9 : stN p l e s m below meth c b A D cJ cB cI cF 873 i (i + 6) := by
      intro qx qr qc qs qb qo qA ff q0 q1 q2 q3 q4 qt g n d rn lo hi sl sh xs rs o qz wz qm qmr qmc qmb qml cd dm lm yM mm H locs ls uc us hF hR hP hD hS hl huc hus
      refine lv_iinc (v := nI (i + 6)) (lv' := [(4, .int (nI (i + 6))), (0, .ref b), (1, .ref qx), (2, .ref qm), (3, .ref qz)]) hx hb dLaw_873 hl (k := 4) rfl (by rw [show (Int32.ofInt 6) = nI 6 from by decide]; exact nI_add _ _) (by decide) rfl (fun ls hl => ?_)
      refine lv_goto (tgt := 23) hx hb dLaw_876 (by decide) ?_
      exact kN hi6 qx qr qc qs qb qo qA ff q0 q1 q2 q3 q4 qt g n d rn lo hi sl sh xs rs o qz wz qm qmr qmc qmb qml cd dm lm yM mm _ _ _ _ _ hF hR hP hD hS (lv_sub hl [1, 2, 3, 4, 0] rfl) (by omega) (by omega)
    have kC9 : stC p l e s m below meth c b A D cJ cB cI cF 873 i (i + 6) := by
      intro qx qr qc qs qb qo qA ff q0 q1 q2 q3 q4 qt g n d rn lo hi sl sh xs rs o qz wz qm qmr qmc qmb qml cd dm lm yM mm kc mC ys bc B szv btv H locs ls uc us hF hR hkc hm0 hm1 hc hLf hbm hmB hsz hyy hP hD hS hl huc hus
      refine lv_iinc (v := nI (i + 6)) (lv' := [(4, .int (nI (i + 6))), (0, .ref b), (1, .ref qx), (2, .ref qm), (3, .ref qz)]) hx hb dLaw_873 hl (k := 4) rfl (by rw [show (Int32.ofInt 6) = nI 6 from by decide]; exact nI_add _ _) (by decide) rfl (fun ls hl => ?_)
      refine lv_goto (tgt := 23) hx hb dLaw_876 (by decide) ?_
      exact kC hi6 qx qr qc qs qb qo qA ff q0 q1 q2 q3 q4 qt g n d rn lo hi sl sh xs rs o qz wz qm qmr qmc qmb qml cd dm lm yM mm kc mC ys bc B szv btv _ _ _ _ _ hF hR hkc hm0 hm1 hc hLf hbm hmB hsz hyy hP hD hS (lv_sub hl [1, 2, 3, 4, 0] rfl) (by omega) (by omega)
    refine lv_aload_n hx hb dLaw_33 rfl (lv_at hl 0 rfl) ?_
    refine lv_iload hx hb dLaw_34 (lv_at hl 4 rfl) ?_
    refine va_sld hx hb hXs hbl hbA hS (vp_in_nI (by omega) (by omega)) dLaw_36 ?_
    refine tp_i (show (sc (nI i).toNatClampNeg) = (sc i) from congrArg sc (nI_clamp (by omega))) ?_
    refine lv_bipush (v := nI 15) hx hb dLaw_37 (by decide) ?_
    refine lv_iand hx hb dLaw_39 ?_
    obtain ⟨j, hj, ej⟩ := and15 (sc i)
    refine tp_i ej ?_
    rcases (show j = 0 ∨ j = 1 ∨ j = 2 ∨ j = 3 ∨ j = 4 ∨ j = 5 ∨ j = 6 ∨ j = 7 ∨ j = 8 ∨ j = 9 ∨ j = 10 ∨ j = 11 ∨ j = 12 ∨ j = 13 ∨ j = 14 ∨ j = 15 by omega) with rfl | rfl | rfl | rfl | rfl | rfl | rfl | rfl | rfl | rfl | rfl | rfl | rfl | rfl | rfl | rfl
    · refine lv_tableIn (x := nI 0) (tgt := 104) hx hb dLaw_40 (by decide) (by decide) rfl (by decide) ?_
      exact la_N_put C1 hi6 kN9 kC9 qx qr qc qs qb qo qA ff q0 q1 q2 q3 q4 qt g n d rn lo hi sl sh xs rs o qz wz qm qmr qmc qmb qml cd dm lm yM mm _ _ _ _ _ hF hR hP hD hS hl huc hus
    · refine lv_tableIn (x := nI 1) (tgt := 192) hx hb dLaw_40 (by decide) (by decide) rfl (by decide) ?_
      exact la_N_fill C1 hi6 kN9 kC9 qx qr qc qs qb qo qA ff q0 q1 q2 q3 q4 qt g n d rn lo hi sl sh xs rs o qz wz qm qmr qmc qmb qml cd dm lm yM mm _ _ _ _ _ hF hR hP hD hS hl huc hus
    · refine lv_tableIn (x := nI 2) (tgt := 336) hx hb dLaw_40 (by decide) (by decide) rfl (by decide) ?_
      exact la_N_clear C1 hi6 kN9 kC9 qx qr qc qs qb qo qA ff q0 q1 q2 q3 q4 qt g n d rn lo hi sl sh xs rs o qz wz qm qmr qmc qmb qml cd dm lm yM mm _ _ _ _ _ hF hR hP hD hS hl huc hus
    · refine lv_tableIn (x := nI 3) (tgt := 349) hx hb dLaw_40 (by decide) (by decide) rfl (by decide) ?_
      exact la_N_weight C1 hi6 kN9 kC9 qx qr qc qs qb qo qA ff q0 q1 q2 q3 q4 qt g n d rn lo hi sl sh xs rs o qz wz qm qmr qmc qmb qml cd dm lm yM mm _ _ _ _ _ hF hR hP hD hS hl huc hus
    · refine lv_tableIn (x := nI 4) (tgt := 405) hx hb dLaw_40 (by decide) (by decide) rfl (by decide) ?_
      exact la_N_write C1 hi6 kN9 kC9 qx qr qc qs qb qo qA ff q0 q1 q2 q3 q4 qt g n d rn lo hi sl sh xs rs o qz wz qm qmr qmc qmb qml cd dm lm yM mm _ _ _ _ _ hF hR hP hD hS hl huc hus
    · refine lv_tableIn (x := nI 5) (tgt := 449) hx hb dLaw_40 (by decide) (by decide) rfl (by decide) ?_
      exact la_N_writeAs C1 hi6 kN9 kC9 qx qr qc qs qb qo qA ff q0 q1 q2 q3 q4 qt g n d rn lo hi sl sh xs rs o qz wz qm qmr qmc qmb qml cd dm lm yM mm _ _ _ _ _ hF hR hP hD hS hl huc hus
    · refine lv_tableIn (x := nI 6) (tgt := 505) hx hb dLaw_40 (by decide) (by decide) rfl (by decide) ?_
      exact la_N_form C1 hi6 kN9 kC9 qx qr qc qs qb qo qA ff q0 q1 q2 q3 q4 qt g n d rn lo hi sl sh xs rs o qz wz qm qmr qmc qmb qml cd dm lm yM mm _ _ _ _ _ hF hR hP hD hS hl huc hus
    · refine lv_tableIn (x := nI 7) (tgt := 518) hx hb dLaw_40 (by decide) (by decide) rfl (by decide) ?_
      exact la_N_size C1 hi6 kN9 kC9 qx qr qc qs qb qo qA ff q0 q1 q2 q3 q4 qt g n d rn lo hi sl sh xs rs o qz wz qm qmr qmc qmb qml cd dm lm yM mm _ _ _ _ _ hF hR hP hD hS hl huc hus
    · refine lv_tableIn (x := nI 8) (tgt := 531) hx hb dLaw_40 (by decide) (by decide) rfl (by decide) ?_
      exact la_N_byteAt C1 hi6 kN9 kC9 qx qr qc qs qb qo qA ff q0 q1 q2 q3 q4 qt g n d rn lo hi sl sh xs rs o qz wz qm qmr qmc qmb qml cd dm lm yM mm _ _ _ _ _ hF hR hP hD hS hl huc hus
    · refine lv_tableIn (x := nI 9) (tgt := 587) hx hb dLaw_40 (by decide) (by decide) rfl (by decide) ?_
      exact la_N_cell C1 hi6 kN9 kC9 qx qr qc qs qb qo qA ff q0 q1 q2 q3 q4 qt g n d rn lo hi sl sh xs rs o qz wz qm qmr qmc qmb qml cd dm lm yM mm _ _ _ _ _ hF hR hP hD hS hl huc hus
    · refine lv_tableIn (x := nI 10) (tgt := 642) hx hb dLaw_40 (by decide) (by decide) rfl (by decide) ?_
      exact la_N_count C1 hi6 kN9 kC9 qx qr qc qs qb qo qA ff q0 q1 q2 q3 q4 qt g n d rn lo hi sl sh xs rs o qz wz qm qmr qmc qmb qml cd dm lm yM mm _ _ _ _ _ hF hR hP hD hS hl huc hus
    · refine lv_tableIn (x := nI 11) (tgt := 742) hx hb dLaw_40 (by decide) (by decide) rfl (by decide) ?_
      exact la_N_sum C1 hi6 kN9 kC9 qx qr qc qs qb qo qA ff q0 q1 q2 q3 q4 qt g n d rn lo hi sl sh xs rs o qz wz qm qmr qmc qmb qml cd dm lm yM mm _ _ _ _ _ hF hR hP hD hS hl huc hus
    · refine lv_tableOut (x := nI 12) (tgt := 873) hx hb dLaw_40 (Or.inr (by decide)) (by decide) ?_
      exact kN9 qx qr qc qs qb qo qA ff q0 q1 q2 q3 q4 qt g n d rn lo hi sl sh xs rs o qz wz qm qmr qmc qmb qml cd dm lm yM mm _ _ _ _ _ hF hR hP hD hS hl (by omega) (by omega)
    · refine lv_tableOut (x := nI 13) (tgt := 873) hx hb dLaw_40 (Or.inr (by decide)) (by decide) ?_
      exact kN9 qx qr qc qs qb qo qA ff q0 q1 q2 q3 q4 qt g n d rn lo hi sl sh xs rs o qz wz qm qmr qmc qmb qml cd dm lm yM mm _ _ _ _ _ hF hR hP hD hS hl (by omega) (by omega)
    · refine lv_tableOut (x := nI 14) (tgt := 873) hx hb dLaw_40 (Or.inr (by decide)) (by decide) ?_
      exact kN9 qx qr qc qs qb qo qA ff q0 q1 q2 q3 q4 qt g n d rn lo hi sl sh xs rs o qz wz qm qmr qmc qmb qml cd dm lm yM mm _ _ _ _ _ hF hR hP hD hS hl (by omega) (by omega)
    · refine lv_tableOut (x := nI 15) (tgt := 873) hx hb dLaw_40 (Or.inr (by decide)) (by decide) ?_
      exact kN9 qx qr qc qs qb qo qA ff q0 q1 q2 q3 q4 qt g n d rn lo hi sl sh xs rs o qz wz qm qmr qmc qmb qml cd dm lm yM mm _ _ _ _ _ hF hR hP hD hS hl (by omega) (by omega)

theorem lp_N {p : Program} {l : Launch} {e : Env} {s : State} {m : MethodId} {below : List Frame} {meth : Method} {c : Code} {b L : Nat} {sc : Nat → Int32} {A : Nat → Prop} {D : va_G} {cJ cB cI cF : ClassId} (C0 : lwCx p l s m meth c b L sc A D cJ cB cI cF) : ∀ (f i : Nat), i ≤ L → L - i < f → stN p l e s m below meth c b A D cJ cB cI cF 23 i i
  | 0, i, _, h => absurd h (by omega)
  | f + 1, i, h1, h2 => lh_N C0 (by have := C0.2.2.2.2.2.2.2; omega) (fun h => lp_N C0 f (i + 6) h (by omega)) (fun h => lp_C C0 (L - (i + 6) + 1) (i + 6) h (by omega))

