set_option maxHeartbeats 4000000 in
set_option maxRecDepth 100000 in
theorem c_nlzI (l : Launch) (D : va_G) (cJ cB cI cF : ClassId) (k : Nat) (sz : Nat) (hk : k < 4294967296) : Met l yJI_numberOfLeadingZeros (Cond.code yJI_numberOfLeadingZeros cJI_numberOfLeadingZeros 2 (some .int) :: wsG) ({ frames := 0, cells := 0, slots := 0, locals := 0 }) (va_Pc [.int (nI k)] (cfPre D (cfT cJ cB cI cF) [] sz)) (va_Qi (fun (r : Int32) (u : Unit) => r = nI (32 - bln k) ∧ True) (fun u t => cfPost D ((fun (u : Unit) => []) u) (va_A [] sz) t) (va_A [] sz)) 0 0 (va_A [] sz) := by
  refine met_i (cc := cJI_numberOfLeadingZeros) (maxL := 2) (S := Unit) (D := D) (wO := fun (u : Unit) => []) (by decide) (Nat.le_of_ble_eq_true rfl) ?_
  intro p e s m below meth c hx hb hml hown hts hlocks hin hWd A hA hsz hP hK hD hS Q hret ls hl
  have hown : s.vm.findClass "java/lang/Integer" = some m.cls := hown
  have hl : lv_has ls 2 [(0, .int (nI k))] := hl
  have hP : va_P D vwCl [] s.heap := hP
  refine lv_iload_n hx hb dJI_numberOfLeadingZeros_0 rfl (lv_at hl 0 rfl) ?_
  refine lv_if_gt (tgt := 15) hx hb dJI_numberOfLeadingZeros_1 (by decide) (fun c1 => ?_) (fun c1 => ?_)
  · have h1 := (nI_sg hk).mp c1
    have ct73 : ∀ (nn : Nat) (kk : Nat), (nn + 1 + bln k = 32 + bln kk) → (0 < kk) → (kk < 4) → (nn ≤ 31) → (1 ≤ nn) → ∀ (H : Heap) (locs : List Loc) (ls : Array Slot), va_P D vwCl [] H → va_D A [] → va_S A s.heap H locs → lv_has ls 2 [(0, .int (nI kk)), (1, .int (nI nn))] → W p l e ({ frames := 0, cells := 0, slots := 0, locals := 0 }) s m ([.int (nI k)].toArray) below meth c H locs (0) (0) Q (F0 m 73 ls []) := by
      intro nn kk g1 g2 g3 g4 g6 H locs ls hP hD hS hl
      refine lv_iload_n hx hb dJI_numberOfLeadingZeros_73 rfl (lv_at hl 1 rfl) ?_
      refine lv_iload_n hx hb dJI_numberOfLeadingZeros_74 rfl (lv_at hl 0 rfl) ?_
      refine lv_iconst (v := nI 1) hx hb dJI_numberOfLeadingZeros_75 (by decide) ?_
      refine lv_iushr hx hb dJI_numberOfLeadingZeros_76 rfl ?_
      refine tp_i (show (((nI kk).toUInt32 >>> ((nI 1).toUInt32 &&& Int32.toUInt32 31)).toInt32) = (nI (kk / 2)) from nI_ushr (by omega) (by omega)) ?_
      refine lv_isub hx hb dJI_numberOfLeadingZeros_77 ?_
      refine tp_i (show ((nI nn) - (nI (kk / 2))) = (nI (nn - (kk / 2))) from pk_sub (by omega)) ?_
      exact hret (nI (nn - (kk / 2))) () _ _ _ _ _ _ ⟨congrArg nI (by have := bln_4 g2 g3; omega), trivial⟩ (hP.sub [] rfl) (hD.sub [] (by decide) rfl) hS (Nat.le_of_ble_eq_true rfl) (Nat.le_of_ble_eq_true rfl) dJI_numberOfLeadingZeros_78
    have ct61 : ∀ (nn : Nat) (kk : Nat), (nn + 1 + bln k = 32 + bln kk) → (0 < kk) → (kk < 16) → (nn ≤ 31) → (3 ≤ nn) → ∀ (H : Heap) (locs : List Loc) (ls : Array Slot), va_P D vwCl [] H → va_D A [] → va_S A s.heap H locs → lv_has ls 2 [(0, .int (nI kk)), (1, .int (nI nn))] → W p l e ({ frames := 0, cells := 0, slots := 0, locals := 0 }) s m ([.int (nI k)].toArray) below meth c H locs (0) (0) Q (F0 m 61 ls []) := by
      intro nn kk g1 g2 g3 g4 g6 H locs ls hP hD hS hl
      refine lv_iload_n hx hb dJI_numberOfLeadingZeros_61 rfl (lv_at hl 0 rfl) ?_
      refine lv_iconst (v := nI 4) hx hb dJI_numberOfLeadingZeros_62 (by decide) ?_
      refine lv_icmp_lt (tgt := 73) hx hb dJI_numberOfLeadingZeros_63 (by decide) (fun c63 => ?_) (fun c63 => ?_)
      · have c63 : kk < 4 := (nI_ltI (by omega) (by omega)).mp c63
        exact ct73 nn kk (by omega) (by omega) (by omega) (by omega) (by omega) _ _ _ (hP.sub [] rfl) (hD.sub [] (by decide) rfl) hS (lv_sub hl [0, 1] rfl)
      · have c63 : ¬ kk < 4 := fun h => c63 ((nI_ltI (by omega) (by omega)).mpr h)
        refine lv_iinc (v := nI (nn - 2)) (lv' := [(1, .int (nI (nn - 2))), (0, .int (nI kk))]) hx hb dJI_numberOfLeadingZeros_66 hl (k := 1) rfl (nI_dec (b := 2) (by omega) _ (by decide)) (by decide) rfl (fun ls hl => ?_)
        refine lv_iload_n hx hb dJI_numberOfLeadingZeros_69 rfl (lv_at hl 1 rfl) ?_
        refine lv_iconst (v := nI 2) hx hb dJI_numberOfLeadingZeros_70 (by decide) ?_
        refine lv_iushr hx hb dJI_numberOfLeadingZeros_71 rfl ?_
        refine tp_i (show (((nI kk).toUInt32 >>> ((nI 2).toUInt32 &&& Int32.toUInt32 31)).toInt32) = (nI (kk / 4)) from nI_ushr (by omega) (by omega)) ?_
        refine lv_istore_n (lv' := [(0, .int (nI (kk / 4))), (1, .int (nI (nn - 2)))]) hx hb dJI_numberOfLeadingZeros_72 rfl hl (by decide) rfl (fun ls hl => ?_)
        exact ct73 (nn - 2) (kk / 4) (by have : bln kk = 2 + bln (kk / 4) := bln_sh (k := 2) (by omega); omega) (by omega) (by omega) (by omega) (by omega) _ _ _ (hP.sub [] rfl) (hD.sub [] (by decide) rfl) hS (lv_sub hl [0, 1] rfl)
    have ct48 : ∀ (nn : Nat) (kk : Nat), (nn + 1 + bln k = 32 + bln kk) → (0 < kk) → (kk < 256) → (nn ≤ 31) → (7 ≤ nn) → ∀ (H : Heap) (locs : List Loc) (ls : Array Slot), va_P D vwCl [] H → va_D A [] → va_S A s.heap H locs → lv_has ls 2 [(0, .int (nI kk)), (1, .int (nI nn))] → W p l e ({ frames := 0, cells := 0, slots := 0, locals := 0 }) s m ([.int (nI k)].toArray) below meth c H locs (0) (0) Q (F0 m 48 ls []) := by
      intro nn kk g1 g2 g3 g4 g6 H locs ls hP hD hS hl
      refine lv_iload_n hx hb dJI_numberOfLeadingZeros_48 rfl (lv_at hl 0 rfl) ?_
      refine lv_bipush (v := nI 16) hx hb dJI_numberOfLeadingZeros_49 (by decide) ?_
      refine lv_icmp_lt (tgt := 61) hx hb dJI_numberOfLeadingZeros_51 (by decide) (fun c51 => ?_) (fun c51 => ?_)
      · have c51 : kk < 16 := (nI_ltI (by omega) (by omega)).mp c51
        exact ct61 nn kk (by omega) (by omega) (by omega) (by omega) (by omega) _ _ _ (hP.sub [] rfl) (hD.sub [] (by decide) rfl) hS (lv_sub hl [0, 1] rfl)
      · have c51 : ¬ kk < 16 := fun h => c51 ((nI_ltI (by omega) (by omega)).mpr h)
        refine lv_iinc (v := nI (nn - 4)) (lv' := [(1, .int (nI (nn - 4))), (0, .int (nI kk))]) hx hb dJI_numberOfLeadingZeros_54 hl (k := 1) rfl (nI_dec (b := 4) (by omega) _ (by decide)) (by decide) rfl (fun ls hl => ?_)
        refine lv_iload_n hx hb dJI_numberOfLeadingZeros_57 rfl (lv_at hl 1 rfl) ?_
        refine lv_iconst (v := nI 4) hx hb dJI_numberOfLeadingZeros_58 (by decide) ?_
        refine lv_iushr hx hb dJI_numberOfLeadingZeros_59 rfl ?_
        refine tp_i (show (((nI kk).toUInt32 >>> ((nI 4).toUInt32 &&& Int32.toUInt32 31)).toInt32) = (nI (kk / 16)) from nI_ushr (by omega) (by omega)) ?_
        refine lv_istore_n (lv' := [(0, .int (nI (kk / 16))), (1, .int (nI (nn - 4)))]) hx hb dJI_numberOfLeadingZeros_60 rfl hl (by decide) rfl (fun ls hl => ?_)
        exact ct61 (nn - 4) (kk / 16) (by have : bln kk = 4 + bln (kk / 16) := bln_sh (k := 4) (by omega); omega) (by omega) (by omega) (by omega) (by omega) _ _ _ (hP.sub [] rfl) (hD.sub [] (by decide) rfl) hS (lv_sub hl [0, 1] rfl)
    have ct33 : ∀ (nn : Nat) (kk : Nat), (nn + 1 + bln k = 32 + bln kk) → (0 < kk) → (kk < 65536) → (nn ≤ 31) → (15 ≤ nn) → ∀ (H : Heap) (locs : List Loc) (ls : Array Slot), va_P D vwCl [] H → va_D A [] → va_S A s.heap H locs → lv_has ls 2 [(0, .int (nI kk)), (1, .int (nI nn))] → W p l e ({ frames := 0, cells := 0, slots := 0, locals := 0 }) s m ([.int (nI k)].toArray) below meth c H locs (0) (0) Q (F0 m 33 ls []) := by
      intro nn kk g1 g2 g3 g4 g6 H locs ls hP hD hS hl
      refine lv_iload_n hx hb dJI_numberOfLeadingZeros_33 rfl (lv_at hl 0 rfl) ?_
      refine lv_sipush (v := nI 256) hx hb dJI_numberOfLeadingZeros_34 (by decide) ?_
      refine lv_icmp_lt (tgt := 48) hx hb dJI_numberOfLeadingZeros_37 (by decide) (fun c37 => ?_) (fun c37 => ?_)
      · have c37 : kk < 256 := (nI_ltI (by omega) (by omega)).mp c37
        exact ct48 nn kk (by omega) (by omega) (by omega) (by omega) (by omega) _ _ _ (hP.sub [] rfl) (hD.sub [] (by decide) rfl) hS (lv_sub hl [0, 1] rfl)
      · have c37 : ¬ kk < 256 := fun h => c37 ((nI_ltI (by omega) (by omega)).mpr h)
        refine lv_iinc (v := nI (nn - 8)) (lv' := [(1, .int (nI (nn - 8))), (0, .int (nI kk))]) hx hb dJI_numberOfLeadingZeros_40 hl (k := 1) rfl (nI_dec (b := 8) (by omega) _ (by decide)) (by decide) rfl (fun ls hl => ?_)
        refine lv_iload_n hx hb dJI_numberOfLeadingZeros_43 rfl (lv_at hl 1 rfl) ?_
        refine lv_bipush (v := nI 8) hx hb dJI_numberOfLeadingZeros_44 (by decide) ?_
        refine lv_iushr hx hb dJI_numberOfLeadingZeros_46 rfl ?_
        refine tp_i (show (((nI kk).toUInt32 >>> ((nI 8).toUInt32 &&& Int32.toUInt32 31)).toInt32) = (nI (kk / 256)) from nI_ushr (by omega) (by omega)) ?_
        refine lv_istore_n (lv' := [(0, .int (nI (kk / 256))), (1, .int (nI (nn - 8)))]) hx hb dJI_numberOfLeadingZeros_47 rfl hl (by decide) rfl (fun ls hl => ?_)
        exact ct48 (nn - 8) (kk / 256) (by have : bln kk = 8 + bln (kk / 256) := bln_sh (k := 8) (by omega); omega) (by omega) (by omega) (by omega) (by omega) _ _ _ (hP.sub [] rfl) (hD.sub [] (by decide) rfl) hS (lv_sub hl [0, 1] rfl)
    refine lv_bipush (v := nI 31) hx hb dJI_numberOfLeadingZeros_15 (by decide) ?_
    refine lv_istore_n (lv' := [(1, .int (nI 31)), (0, .int (nI k))]) hx hb dJI_numberOfLeadingZeros_17 rfl hl (by decide) rfl (fun ls hl => ?_)
    refine lv_iload_n hx hb dJI_numberOfLeadingZeros_18 rfl (lv_at hl 1 rfl) ?_
    refine lv_ldcw (v := (65536)) hx hb hown (hts _ tw_344) dJI_numberOfLeadingZeros_19 ?_
    refine tp_i (show (65536) = (nI 65536) from by decide) ?_
    refine lv_icmp_lt (tgt := 33) hx hb dJI_numberOfLeadingZeros_22 (by decide) (fun c22 => ?_) (fun c22 => ?_)
    · have c22 : k < 65536 := (nI_ltI (by omega) (by omega)).mp c22
      exact ct33 31 k (by omega) (by omega) (by omega) (by omega) (by omega) _ _ _ (hP.sub [] rfl) (hD.sub [] (by decide) rfl) hS (lv_sub hl [1, 0] rfl)
    · have c22 : ¬ k < 65536 := fun h => c22 ((nI_ltI (by omega) (by omega)).mpr h)
      refine lv_iinc (v := nI 15) (lv' := [(1, .int (nI 15)), (0, .int (nI k))]) hx hb dJI_numberOfLeadingZeros_25 hl (k := 0) rfl (by decide) (by decide) rfl (fun ls hl => ?_)
      refine lv_iload_n hx hb dJI_numberOfLeadingZeros_28 rfl (lv_at hl 1 rfl) ?_
      refine lv_bipush (v := nI 16) hx hb dJI_numberOfLeadingZeros_29 (by decide) ?_
      refine lv_iushr hx hb dJI_numberOfLeadingZeros_31 rfl ?_
      refine tp_i (show (((nI k).toUInt32 >>> ((nI 16).toUInt32 &&& Int32.toUInt32 31)).toInt32) = (nI (k / 65536)) from nI_ushr (by omega) (by omega)) ?_
      refine lv_istore_n (lv' := [(0, .int (nI (k / 65536))), (1, .int (nI 15))]) hx hb dJI_numberOfLeadingZeros_32 rfl hl (by decide) rfl (fun ls hl => ?_)
      exact ct33 15 (k / 65536) (by have : bln k = 16 + bln (k / 65536) := bln_sh (k := 16) (by omega); omega) (by omega) (by omega) (by omega) (by omega) _ _ _ (hP.sub [] rfl) (hD.sub [] (by decide) rfl) hS (lv_sub hl [0, 1] rfl)
  · refine lv_iload_n hx hb dJI_numberOfLeadingZeros_4 rfl (lv_at hl 0 rfl) ?_
    refine lv_if_ne (tgt := 13) hx hb dJI_numberOfLeadingZeros_5 (by decide) (fun c5 => ?_) (fun c5 => ?_)
    · refine lv_iconst (v := nI 0) hx hb dJI_numberOfLeadingZeros_13 (by decide) ?_
      exact hret (nI 0) () _ _ _ _ _ _ ⟨by have e : bln k = 32 := bln_32 (nI_ng hk c1 c5) hk; rw [e], trivial⟩ (hP.sub [] rfl) (hD.sub [] (by decide) rfl) hS (Nat.le_of_ble_eq_true rfl) (Nat.le_of_ble_eq_true rfl) dJI_numberOfLeadingZeros_14
    · refine lv_bipush (v := nI 32) hx hb dJI_numberOfLeadingZeros_8 (by decide) ?_
      refine lv_goto (tgt := 14) hx hb dJI_numberOfLeadingZeros_10 (by decide) ?_
      exact hret (nI 32) () _ _ _ _ _ _ ⟨by have e : k = 0 := nI_z hk c5; subst e; rfl, trivial⟩ (hP.sub [] rfl) (hD.sub [] (by decide) rfl) hS (Nat.le_of_ble_eq_true rfl) (Nat.le_of_ble_eq_true rfl) dJI_numberOfLeadingZeros_14

set_option maxHeartbeats 4000000 in
set_option maxRecDepth 100000 in
theorem c_nlzL (l : Launch) (D : va_G) (cJ cB cI cF : ClassId) (x : Int64) (sz : Nat) : Met l yJL_numberOfLeadingZeros (Cond.code yJL_numberOfLeadingZeros cJL_numberOfLeadingZeros 3 (some .int) :: wsG) ({ frames := 1, cells := 0, slots := 0, locals := 21 }) (va_Pc [.long x] (cfPre D (cfT cJ cB cI cF) [] sz)) (va_Qi (fun (r : Int32) (u : Unit) => r = nI (64 - bln (uN x)) ∧ True) (fun u t => cfPost D ((fun (u : Unit) => []) u) (va_A [] sz) t) (va_A [] sz)) 0 0 (va_A [] sz) := by
  refine met_i (cc := cJL_numberOfLeadingZeros) (maxL := 3) (S := Unit) (D := D) (wO := fun (u : Unit) => []) (by decide) (Nat.le_of_ble_eq_true rfl) ?_
  intro p e s m below meth c hx hb hml hown hts hlocks hin hWd A hA hsz hP hK hD hS Q hret ls hl
  have hown : s.vm.findClass "java/lang/Long" = some m.cls := hown
  have hl : lv_has ls 3 [(0, .long x)] := hl
  have hP : va_P D vwCl [] s.heap := hP
  have hx4 := uN_lt x
  refine lv_lload_n hx hb dJL_numberOfLeadingZeros_0 rfl (lv_at hl 0 rfl) ?_
  refine lv_bipush (v := nI 32) hx hb dJL_numberOfLeadingZeros_1 (by decide) ?_
  refine lv_lushr hx hb dJL_numberOfLeadingZeros_3 rfl ?_
  refine lv_l2i hx hb dJL_numberOfLeadingZeros_4 rfl ?_
  refine tp_i (show (((x.toUInt64 >>> ((nI 32).toInt64.toUInt64 &&& Int64.toUInt64 63)).toInt64).toInt32) = (nI (uN x / 4294967296)) from l2i_hi x) ?_
  refine lv_istore_n (lv' := [(2, .int (nI (uN x / 4294967296))), (0, .long x)]) hx hb dJL_numberOfLeadingZeros_5 rfl hl (by decide) rfl (fun ls hl => ?_)
  refine lv_iload_n hx hb dJL_numberOfLeadingZeros_6 rfl (lv_at hl 0 rfl) ?_
  refine lv_if_ne (tgt := 21) hx hb dJL_numberOfLeadingZeros_7 (by decide) (fun c7 => ?_) (fun c7 => ?_)
  · have c7 : ¬ uN x / 4294967296 = 0 := fun h => c7 (by rw [h]; rfl)
    refine lv_iload_n hx hb dJL_numberOfLeadingZeros_21 rfl (lv_at hl 0 rfl) ?_
    refine kc_i (wc := []) (wr := []) hP hD hS hA [] [] rfl rfl (by decide) (by decide) (by decide) (fun hPc hDc => va_runS (As := [.int (nI (uN x / 4294967296))]) (rest := []) ⟨hx, hb, hml, hown, hts⟩ (c_nlzI l D cJ cB cI cF (uN x / 4294967296) _ (by omega)) (va_cwS 1 hts (wsG_k tw_341 (wsG_k tw_342 (wsG_k tw_19 (wsG_c tw_343)))) rfl rfl rfl (by decide +kernel) ⟨Nat.le_of_ble_eq_true rfl, Nat.le_of_ble_eq_true rfl⟩) ⟨cf_blind, cf_pre hPc hK hDc hWd⟩ rfl rfl hl.1 rfl (lv_room (Nat.le_of_ble_eq_true rfl)) dJL_numberOfLeadingZeros_22 ⟨Nat.le_of_ble_eq_true rfl, Nat.le_of_ble_eq_true rfl⟩) (fun r u H locs hw hP hD hS => ?_)
    obtain ⟨rfl, -⟩ := hw
    have hP : va_P D vwCl [] H := hP
    have hD : va_D A [] := hD
    exact hret (nI (32 - bln (uN x / 4294967296))) () _ _ _ _ _ _ ⟨congrArg nI (by have : bln (uN x) = 32 + bln (uN x / 4294967296) := bln_sh (k := 32) (by omega); have := bln_le (n := uN x / 4294967296) (k := 32) (by omega); omega), trivial⟩ (hP.sub [] rfl) (hD.sub [] (by decide) rfl) hS (Nat.le_of_ble_eq_true rfl) (Nat.le_of_ble_eq_true rfl) dJL_numberOfLeadingZeros_25
  · have c7 := nI_z (by omega) c7
    refine lv_bipush (v := nI 32) hx hb dJL_numberOfLeadingZeros_10 (by decide) ?_
    refine lv_lload_n hx hb dJL_numberOfLeadingZeros_12 rfl (lv_at hl 1 rfl) ?_
    refine lv_l2i hx hb dJL_numberOfLeadingZeros_13 rfl ?_
    refine tp_i (show x.toInt32 = (nI (uN x)) from l2i_n x) ?_
    refine kc_i (wc := []) (wr := []) hP hD hS hA [] [] rfl rfl (by decide) (by decide) (by decide) (fun hPc hDc => va_runS (As := [.int (nI (uN x))]) (rest := [.int (nI 32)]) ⟨hx, hb, hml, hown, hts⟩ (c_nlzI l D cJ cB cI cF (uN x) _ (by omega)) (va_cwS 1 hts (wsG_k tw_341 (wsG_k tw_342 (wsG_k tw_19 (wsG_c tw_343)))) rfl rfl rfl (by decide +kernel) ⟨Nat.le_of_ble_eq_true rfl, Nat.le_of_ble_eq_true rfl⟩) ⟨cf_blind, cf_pre hPc hK hDc hWd⟩ rfl rfl hl.1 rfl (lv_room (Nat.le_of_ble_eq_true rfl)) dJL_numberOfLeadingZeros_14 ⟨Nat.le_of_ble_eq_true rfl, Nat.le_of_ble_eq_true rfl⟩) (fun r u H locs hw hP hD hS => ?_)
    obtain ⟨rfl, -⟩ := hw
    have hP : va_P D vwCl [] H := hP
    have hD : va_D A [] := hD
    refine lv_iadd hx hb dJL_numberOfLeadingZeros_17 ?_
    refine tp_i (show ((nI 32) + (nI (32 - bln (uN x)))) = (nI (32 + (32 - bln (uN x)))) from nI_add _ _) ?_
    refine lv_goto (tgt := 25) hx hb dJL_numberOfLeadingZeros_18 (by decide) ?_
    exact hret (nI (32 + (32 - bln (uN x)))) () _ _ _ _ _ _ ⟨congrArg nI (by have := bln_le (n := uN x) (k := 32) (by omega); omega), trivial⟩ (hP.sub [] rfl) (hD.sub [] (by decide) rfl) hS (Nat.le_of_ble_eq_true rfl) (Nat.le_of_ble_eq_true rfl) dJL_numberOfLeadingZeros_25

set_option maxHeartbeats 4000000 in
set_option maxRecDepth 100000 in
theorem c_bits (l : Launch) (D : va_G) (cJ cB cI cF : ClassId) (x : Int64) (sz : Nat) : Met l yCf_bits (Cond.code yCf_bits cCf_bits 2 (some .int) :: wsG) ({ frames := 2, cells := 0, slots := 0, locals := 43 }) (va_Pc [.long x] (cfPre D (cfT cJ cB cI cF) [] sz)) (va_Qi (fun (r : Int32) (u : Unit) => r = nI (bln (uN x)) ∧ True) (fun u t => cfPost D ((fun (u : Unit) => []) u) (va_A [] sz) t) (va_A [] sz)) 0 0 (va_A [] sz) := by
  refine met_i (cc := cCf_bits) (maxL := 2) (S := Unit) (D := D) (wO := fun (u : Unit) => []) (by decide) (Nat.le_of_ble_eq_true rfl) ?_
  intro p e s m below meth c hx hb hml hown hts hlocks hin hWd A hA hsz hP hK hD hS Q hret ls hl
  have hown : s.vm.findClass "ColumnForms" = some m.cls := hown
  have hl : lv_has ls 2 [(0, .long x)] := hl
  have hP : va_P D vwCl [] s.heap := hP
  have hx5 := bln_le (n := uN x) (k := 64) (uN_lt x)
  refine lv_bipush (v := nI 64) hx hb dCf_bits_0 (by decide) ?_
  refine lv_lload_n hx hb dCf_bits_2 rfl (lv_at hl 0 rfl) ?_
  refine kc_i (wc := []) (wr := []) hP hD hS hA [] [] rfl rfl (by decide) (by decide) (by decide) (fun hPc hDc => va_runS (As := [.long x]) (rest := [.int (nI 64)]) ⟨hx, hb, hml, hown, hts⟩ (c_nlzL l D cJ cB cI cF x _) (va_cwS 1 hts (wsG_k tw_338 (wsG_k tw_339 (wsG_k tw_18 (wsG_c tw_340)))) rfl rfl rfl (by decide +kernel) ⟨Nat.le_of_ble_eq_true rfl, Nat.le_of_ble_eq_true rfl⟩) ⟨cf_blind, cf_pre hPc hK hDc hWd⟩ rfl rfl hl.1 rfl (lv_room (Nat.le_of_ble_eq_true rfl)) dCf_bits_3 ⟨Nat.le_of_ble_eq_true rfl, Nat.le_of_ble_eq_true rfl⟩) (fun r u H locs hw hP hD hS => ?_)
  obtain ⟨rfl, -⟩ := hw
  have hP : va_P D vwCl [] H := hP
  have hD : va_D A [] := hD
  refine lv_isub hx hb dCf_bits_6 ?_
  refine tp_i (show ((nI 64) - (nI (64 - bln (uN x)))) = (nI (64 - (64 - bln (uN x)))) from pk_sub (by omega)) ?_
  exact hret (nI (64 - (64 - bln (uN x)))) () _ _ _ _ _ _ ⟨congrArg nI (by omega), trivial⟩ (hP.sub [] rfl) (hD.sub [] (by decide) rfl) hS (Nat.le_of_ble_eq_true rfl) (Nat.le_of_ble_eq_true rfl) dCf_bits_7

set_option maxHeartbeats 4000000 in
set_option maxRecDepth 100000 in
theorem c_whole (l : Launch) (D : va_G) (cJ cB cI cF : ClassId) (k : Nat) (sz : Nat) (hk : k ≤ 2000000) : Met l yCf_wholeBytes (Cond.code yCf_wholeBytes cCf_wholeBytes 1 (some .int) :: wsG) ({ frames := 0, cells := 0, slots := 0, locals := 0 }) (va_Pc [.int (nI k)] (cfPre D (cfT cJ cB cI cF) [] sz)) (va_Qi (fun (r : Int32) (u : Unit) => r = nI ((k + 7) / 8) ∧ True) (fun u t => cfPost D ((fun (u : Unit) => []) u) (va_A [] sz) t) (va_A [] sz)) 0 0 (va_A [] sz) := by
  refine met_i (cc := cCf_wholeBytes) (maxL := 1) (S := Unit) (D := D) (wO := fun (u : Unit) => []) (by decide) (Nat.le_of_ble_eq_true rfl) ?_
  intro p e s m below meth c hx hb hml hown hts hlocks hin hWd A hA hsz hP hK hD hS Q hret ls hl
  have hown : s.vm.findClass "ColumnForms" = some m.cls := hown
  have hl : lv_has ls 1 [(0, .int (nI k))] := hl
  have hP : va_P D vwCl [] s.heap := hP
  refine lv_iload_n hx hb dCf_wholeBytes_0 rfl (lv_at hl 0 rfl) ?_
  refine lv_bipush (v := nI 7) hx hb dCf_wholeBytes_1 (by decide) ?_
  refine lv_iadd hx hb dCf_wholeBytes_3 ?_
  refine tp_i (show ((nI k) + (nI 7)) = (nI (k + 7)) from nI_add _ _) ?_
  refine lv_iconst (v := nI 3) hx hb dCf_wholeBytes_4 (by decide) ?_
  refine lv_ishr hx hb dCf_wholeBytes_5 ?_
  refine tp_i (show ((nI (k + 7)) >>> ((nI 3) &&& 31)) = (nI ((k + 7) / 8)) from pk_shrN (by omega) _ 3 (by decide)) ?_
  exact hret (nI ((k + 7) / 8)) () _ _ _ _ _ _ ⟨rfl, trivial⟩ (hP.sub [] rfl) (hD.sub [] (by decide) rfl) hS (Nat.le_of_ble_eq_true rfl) (Nat.le_of_ble_eq_true rfl) dCf_wholeBytes_6

set_option maxHeartbeats 4000000 in
set_option maxRecDepth 100000 in
theorem c_fill (l : Launch) (D : va_G) (cJ cB cI cF : ClassId) (qa : Nat) (f : Nat → Int32) (x : Int32) (sz : Nat) : Met l yJA_fill (Cond.code yJA_fill cJA_fill 4 none :: wsG) ({ frames := 0, cells := 0, slots := 0, locals := 0 }) (va_Pc [.ref qa, .int x] (cfPre D (cfT cJ cB cI cF) [(qa, .inl (cI, 1024, .inl f))] sz)) (va_Qv (fun (u : (Nat → Int32)) => (∀ j, j < 1024 → u j = x) ∧ True) (fun u t => cfPost D ((fun (u : (Nat → Int32)) => [(qa, .inl (cI, 1024, .inl u))]) u) (va_A [(qa, .inl (cI, 1024, .inl f))] sz) t) (va_A [(qa, .inl (cI, 1024, .inl f))] sz)) 0 0 (va_A [(qa, .inl (cI, 1024, .inl f))] sz) := by
  refine met_v (cc := cJA_fill) (maxL := 4) (S := (Nat → Int32)) (D := D) (wO := fun (u : (Nat → Int32)) => [(qa, .inl (cI, 1024, .inl u))]) (by decide) (Nat.le_of_ble_eq_true rfl) ?_
  intro p e s m below meth c hx hb hml hown hts hlocks hin hWd A hA hsz hP hK hD hS Q hret ls hl
  have hown : s.vm.findClass "java/util/Arrays" = some m.cls := hown
  have hl : lv_has ls 4 [(0, .ref qa), (1, .int x)] := hl
  have hP : va_P D vwCl [(qa, .inl (cI, 1024, .inl f))] s.heap := hP
  refine lv_iconst (v := nI 0) hx hb dJA_fill_0 (by decide) ?_
  refine lv_istore_n (lv' := [(2, .int (nI 0)), (0, .ref qa), (1, .int x)]) hx hb dJA_fill_1 rfl hl (by decide) rfl (fun ls hl => ?_)
  refine lv_aload_n hx hb dJA_fill_2 rfl (lv_at hl 1 rfl) ?_
  refine va_alen hx hb hK hP 0 2 rfl rfl (v := nI 1024) rfl dJA_fill_3 ?_
  refine lv_istore_n (lv' := [(3, .int (nI 1024)), (2, .int (nI 0)), (0, .ref qa), (1, .int x)]) hx hb dJA_fill_4 rfl hl (by decide) rfl (fun ls hl => ?_)
  have lp : ∀ (k_lp : Nat) (i : Nat) (g : Nat → Int32), (i ≤ 1024) → (∀ j, j < i → g j = x) → (1024 - i < k_lp) → ∀ (H : Heap) (locs : List Loc) (ls : Array Slot), va_P D vwCl [(qa, .inl (cI, 1024, .inl g))] H → va_D A [(qa, .inl (cI, 1024, .inl g))] → va_S A s.heap H locs → lv_has ls 4 [(0, .ref qa), (1, .int x), (2, .int (nI i)), (3, .int (nI 1024))] → W p l e ({ frames := 0, cells := 0, slots := 0, locals := 0 }) s m ([.ref qa, .int x].toArray) below meth c H locs (0) (0) Q (F0 m 5 ls []) := by
    intro k_lp
    induction k_lp with
    | zero => intro i g g1 g2 hfu; exact absurd hfu (by omega)
    | succ k_lp ih_lp =>
      intro i g g1 g2 hfu H locs ls hP hD hS hl
      refine lv_iload_n hx hb dJA_fill_5 rfl (lv_at hl 2 rfl) ?_
      refine lv_iload_n hx hb dJA_fill_6 rfl (lv_at hl 3 rfl) ?_
      refine lv_icmp_ge (tgt := 20) hx hb dJA_fill_7 (by decide) (fun c7 => ?_) (fun c7 => ?_)
      · have c7 : 1024 ≤ i := (nI_leI (by omega) (by omega)).mp c7
        exact hret (g) _ _ _ _ _ _ ⟨fun j hj => g2 j (by omega), trivial⟩ (hP.sub [0] rfl) (hD.sub [0] (by decide) rfl) hS (Nat.le_of_ble_eq_true rfl) (Nat.le_of_ble_eq_true rfl) dJA_fill_20
      · have c7 : ¬ 1024 ≤ i := fun h => c7 ((nI_leI (by omega) (by omega)).mpr h)
        refine lv_aload_n hx hb dJA_fill_10 rfl (lv_at hl 0 rfl) ?_
        refine lv_iload_n hx hb dJA_fill_11 rfl (lv_at hl 2 rfl) ?_
        refine lv_iload_n hx hb dJA_fill_12 rfl (lv_at hl 1 rfl) ?_
        refine va_iast hx hb hK hP hD hS 0 2 rfl rfl (vp_in_nI (by omega) (by omega)) dJA_fill_13 (fun H locs hP hD hS => ?_)
        rw [nI_clamp (by omega)] at hP hD
        have hP : va_P D vwCl [(qa, .inl (cI, 1024, .inl (upd g i x)))] H := hP
        have hD : va_D A [(qa, .inl (cI, 1024, .inl (upd g i x)))] := hD
        refine lv_iinc (v := nI (i + 1)) (lv' := [(2, .int (nI (i + 1))), (0, .ref qa), (1, .int x), (3, .int (nI 1024))]) hx hb dJA_fill_14 hl (k := 2) rfl (by rw [show (Int32.ofInt 1) = nI 1 from by decide]; exact nI_add _ _) (by decide) rfl (fun ls hl => ?_)
        refine lv_goto (tgt := 5) hx hb dJA_fill_17 (by decide) ?_
        exact ih_lp (i + 1) (upd g i x) (by omega) (upd_all g2) (by omega) _ _ _ (hP.sub [0] rfl) (hD.sub [0] (by decide) rfl) hS (lv_sub hl [1, 2, 0, 3] rfl)
  exact lp (1024 - 0 + 1) 0 f (by omega) (fun j hj => absurd hj (by omega)) (by omega) _ _ _ (hP.sub [0] rfl) (hD.sub [0] (by decide) rfl) hS (lv_sub hl [2, 3, 1, 0] rfl)

