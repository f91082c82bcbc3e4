set_option maxHeartbeats 4000000 in
set_option maxRecDepth 100000 in
theorem c_fits (l : Launch) (D : va_G) (cJ cB cI cF : ClassId) (qq : Nat) (ht_ : Int32) (tt : Int64) (kd : Nat) (low : Int64) (high : Int64) (v : Int64) (sz : Nat) (hk : kd < 5) : Met l yQu_fits (Cond.code yQu_fits cQu_fits 3 (some .boolean) :: wsG) ({ frames := 0, cells := 0, slots := 0, locals := 0 }) (va_Pc [.ref qq, .long v] (cfPre D (cfT cJ cB cI cF) [(qq, .inr (4, [.int ht_, .long tt, .int (nI kd), .long low, .long high]))] sz)) (va_Qi (fun (r : Int32) (u : Unit) => r = qB (qF kd low high v) ∧ True) (fun u t => cfPost D ((fun (u : Unit) => [(qq, .inr (4, [.int ht_, .long tt, .int (nI kd), .long low, .long high]))]) u) (va_A [(qq, .inr (4, [.int ht_, .long tt, .int (nI kd), .long low, .long high]))] sz) t) (va_A [(qq, .inr (4, [.int ht_, .long tt, .int (nI kd), .long low, .long high]))] sz)) 0 0 (va_A [(qq, .inr (4, [.int ht_, .long tt, .int (nI kd), .long low, .long high]))] sz) := by
  refine met_z (cc := cQu_fits) (maxL := 3) (S := Unit) (D := D) (wO := fun (u : Unit) => [(qq, .inr (4, [.int ht_, .long tt, .int (nI kd), .long low, .long high]))]) (by decide) (Nat.le_of_ble_eq_true rfl) ?_
  intro p e s m below meth c hx hb hml hown hts hlocks hin hWd A hA hsz hP hK hD hS Q hret ls hl
  have hown : s.vm.findClass "ColumnForms$Question" = some m.cls := hown
  have hl : lv_has ls 3 [(0, .ref qq), (1, .long v)] := hl
  have hP : va_P D vwCl [(qq, .inr (4, [.int ht_, .long tt, .int (nI kd), .long low, .long high]))] s.heap := hP
  refine lv_aload_n hx hb dQu_fits_0 rfl (lv_at hl 0 rfl) ?_
  refine va_get (D := D) (ci := 4) (v := .int (nI kd)) (C := "ColumnForms$Question") (T := TQu) (N := 5) hx hb hts inQu hown hK hP 0 rfl rfl 2 (by decide) (hts _ tw_523) (fun _ h9 => h9) rfl dQu_fits_1 ?_
  rcases (show kd = 0 ∨ kd = 1 ∨ kd = 2 ∨ kd = 3 ∨ kd = 4 by omega) with rfl | rfl | rfl | rfl | rfl
  · refine lv_tableIn (x := nI 0) (tgt := 40) hx hb dQu_fits_4 (by decide) (by decide) rfl (by decide) ?_
    refine lv_lload_n hx hb dQu_fits_40 rfl (lv_at hl 1 rfl) ?_
    refine lv_aload_n hx hb dQu_fits_41 rfl (lv_at hl 0 rfl) ?_
    refine va_get (D := D) (ci := 4) (v := .long low) (C := "ColumnForms$Question") (T := TQu) (N := 5) hx hb hts inQu hown hK hP 0 rfl rfl 3 (by decide) (hts _ tw_524) (fun _ h9 => h9) rfl dQu_fits_42 ?_
    refine W.lcmp hx hb dQu_fits_45 ?_
    refine lv_if_ne (tgt := 53) hx hb dQu_fits_46 (by decide) (fun c46 => ?_) (fun c46 => ?_)
    · have c46 : ¬ v = low := fun h => c46 ((lg_cmp_eq _ _).mpr h)
      refine lv_iconst (v := nI 0) hx hb dQu_fits_53 (by decide) ?_
      exact hret (nI 0) () _ _ _ _ _ _ ⟨by show _ = qB (decide _); rw [decide_eq_false c46]; rfl, trivial⟩ (hP.sub [0] rfl) (hD.sub [0] (by decide) rfl) hS (Nat.le_of_ble_eq_true rfl) (Nat.le_of_ble_eq_true rfl) (by rfl) dQu_fits_54
    · have c46 : v = low := (lg_cmp_eq _ _).mp c46
      refine lv_iconst (v := nI 1) hx hb dQu_fits_49 (by decide) ?_
      refine lv_goto (tgt := 54) hx hb dQu_fits_50 (by decide) ?_
      exact hret (nI 1) () _ _ _ _ _ _ ⟨by show _ = qB (decide _); rw [decide_eq_true c46]; rfl, trivial⟩ (hP.sub [0] rfl) (hD.sub [0] (by decide) rfl) hS (Nat.le_of_ble_eq_true rfl) (Nat.le_of_ble_eq_true rfl) (by rfl) dQu_fits_54
  · refine lv_tableIn (x := nI 1) (tgt := 55) hx hb dQu_fits_4 (by decide) (by decide) rfl (by decide) ?_
    refine lv_lload_n hx hb dQu_fits_55 rfl (lv_at hl 1 rfl) ?_
    refine lv_aload_n hx hb dQu_fits_56 rfl (lv_at hl 0 rfl) ?_
    refine va_get (D := D) (ci := 4) (v := .long low) (C := "ColumnForms$Question") (T := TQu) (N := 5) hx hb hts inQu hown hK hP 0 rfl rfl 3 (by decide) (hts _ tw_524) (fun _ h9 => h9) rfl dQu_fits_57 ?_
    refine W.lcmp hx hb dQu_fits_60 ?_
    refine lv_if_ge (tgt := 68) hx hb dQu_fits_61 (by decide) (fun c61 => ?_) (fun c61 => ?_)
    · have c61 : low ≤ v := (lg_cmp_ge _ _).mp c61
      refine lv_iconst (v := nI 0) hx hb dQu_fits_68 (by decide) ?_
      exact hret (nI 0) () _ _ _ _ _ _ ⟨by show _ = qB (decide _); rw [decide_eq_false (fun h => (Int64.not_lt.mpr c61) h)]; rfl, trivial⟩ (hP.sub [0] rfl) (hD.sub [0] (by decide) rfl) hS (Nat.le_of_ble_eq_true rfl) (Nat.le_of_ble_eq_true rfl) (by rfl) dQu_fits_69
    · have c61 : ¬ low ≤ v := fun h => c61 ((lg_cmp_ge _ _).mpr h)
      refine lv_iconst (v := nI 1) hx hb dQu_fits_64 (by decide) ?_
      refine lv_goto (tgt := 69) hx hb dQu_fits_65 (by decide) ?_
      exact hret (nI 1) () _ _ _ _ _ _ ⟨by show _ = qB (decide _); rw [decide_eq_true (Int64.not_le.mp c61)]; rfl, trivial⟩ (hP.sub [0] rfl) (hD.sub [0] (by decide) rfl) hS (Nat.le_of_ble_eq_true rfl) (Nat.le_of_ble_eq_true rfl) (by rfl) dQu_fits_69
  · refine lv_tableIn (x := nI 2) (tgt := 70) hx hb dQu_fits_4 (by decide) (by decide) rfl (by decide) ?_
    refine lv_lload_n hx hb dQu_fits_70 rfl (lv_at hl 1 rfl) ?_
    refine lv_aload_n hx hb dQu_fits_71 rfl (lv_at hl 0 rfl) ?_
    refine va_get (D := D) (ci := 4) (v := .long low) (C := "ColumnForms$Question") (T := TQu) (N := 5) hx hb hts inQu hown hK hP 0 rfl rfl 3 (by decide) (hts _ tw_524) (fun _ h9 => h9) rfl dQu_fits_72 ?_
    refine W.lcmp hx hb dQu_fits_75 ?_
    refine lv_if_le (tgt := 83) hx hb dQu_fits_76 (by decide) (fun c76 => ?_) (fun c76 => ?_)
    · have c76 : v ≤ low := (lg_cmp_le _ _).mp c76
      refine lv_iconst (v := nI 0) hx hb dQu_fits_83 (by decide) ?_
      exact hret (nI 0) () _ _ _ _ _ _ ⟨by show _ = qB (decide _); rw [decide_eq_false (fun h => (Int64.not_lt.mpr c76) h)]; rfl, trivial⟩ (hP.sub [0] rfl) (hD.sub [0] (by decide) rfl) hS (Nat.le_of_ble_eq_true rfl) (Nat.le_of_ble_eq_true rfl) (by rfl) dQu_fits_84
    · have c76 : ¬ v ≤ low := fun h => c76 ((lg_cmp_le _ _).mpr h)
      refine lv_iconst (v := nI 1) hx hb dQu_fits_79 (by decide) ?_
      refine lv_goto (tgt := 84) hx hb dQu_fits_80 (by decide) ?_
      exact hret (nI 1) () _ _ _ _ _ _ ⟨by show _ = qB (decide _); rw [decide_eq_true (Int64.not_le.mp c76)]; rfl, trivial⟩ (hP.sub [0] rfl) (hD.sub [0] (by decide) rfl) hS (Nat.le_of_ble_eq_true rfl) (Nat.le_of_ble_eq_true rfl) (by rfl) dQu_fits_84
  · refine lv_tableIn (x := nI 3) (tgt := 85) hx hb dQu_fits_4 (by decide) (by decide) rfl (by decide) ?_
    refine lv_lload_n hx hb dQu_fits_85 rfl (lv_at hl 1 rfl) ?_
    refine lv_aload_n hx hb dQu_fits_86 rfl (lv_at hl 0 rfl) ?_
    refine va_get (D := D) (ci := 4) (v := .long low) (C := "ColumnForms$Question") (T := TQu) (N := 5) hx hb hts inQu hown hK hP 0 rfl rfl 3 (by decide) (hts _ tw_524) (fun _ h9 => h9) rfl dQu_fits_87 ?_
    refine lv_land hx hb dQu_fits_90 ?_
    refine lv_aload_n hx hb dQu_fits_91 rfl (lv_at hl 0 rfl) ?_
    refine va_get (D := D) (ci := 4) (v := .long low) (C := "ColumnForms$Question") (T := TQu) (N := 5) hx hb hts inQu hown hK hP 0 rfl rfl 3 (by decide) (hts _ tw_524) (fun _ h9 => h9) rfl dQu_fits_92 ?_
    refine W.lcmp hx hb dQu_fits_95 ?_
    refine lv_if_ne (tgt := 103) hx hb dQu_fits_96 (by decide) (fun c96 => ?_) (fun c96 => ?_)
    · have c96 : ¬ (v &&& low) = low := fun h => c96 ((lg_cmp_eq _ _).mpr h)
      refine lv_iconst (v := nI 0) hx hb dQu_fits_103 (by decide) ?_
      exact hret (nI 0) () _ _ _ _ _ _ ⟨by show _ = qB (decide _); rw [decide_eq_false c96]; rfl, trivial⟩ (hP.sub [0] rfl) (hD.sub [0] (by decide) rfl) hS (Nat.le_of_ble_eq_true rfl) (Nat.le_of_ble_eq_true rfl) (by rfl) dQu_fits_104
    · have c96 : (v &&& low) = low := (lg_cmp_eq _ _).mp c96
      refine lv_iconst (v := nI 1) hx hb dQu_fits_99 (by decide) ?_
      refine lv_goto (tgt := 104) hx hb dQu_fits_100 (by decide) ?_
      exact hret (nI 1) () _ _ _ _ _ _ ⟨by show _ = qB (decide _); rw [decide_eq_true c96]; rfl, trivial⟩ (hP.sub [0] rfl) (hD.sub [0] (by decide) rfl) hS (Nat.le_of_ble_eq_true rfl) (Nat.le_of_ble_eq_true rfl) (by rfl) dQu_fits_104
  · refine lv_tableIn (x := nI 4) (tgt := 105) hx hb dQu_fits_4 (by decide) (by decide) rfl (by decide) ?_
    refine lv_lload_n hx hb dQu_fits_105 rfl (lv_at hl 1 rfl) ?_
    refine lv_aload_n hx hb dQu_fits_106 rfl (lv_at hl 0 rfl) ?_
    refine va_get (D := D) (ci := 4) (v := .long low) (C := "ColumnForms$Question") (T := TQu) (N := 5) hx hb hts inQu hown hK hP 0 rfl rfl 3 (by decide) (hts _ tw_524) (fun _ h9 => h9) rfl dQu_fits_107 ?_
    refine W.lcmp hx hb dQu_fits_110 ?_
    refine lv_if_lt (tgt := 127) hx hb dQu_fits_111 (by decide) (fun c111 => ?_) (fun c111 => ?_)
    · have c111 : v < low := (lg_cmp_lt _ _).mp c111
      refine lv_iconst (v := nI 0) hx hb dQu_fits_127 (by decide) ?_
      exact hret (nI 0) () _ _ _ _ _ _ ⟨by show _ = qB (decide _ && decide _); rw [decide_eq_false (Int64.not_le.mpr c111)]; rfl, trivial⟩ (hP.sub [0] rfl) (hD.sub [0] (by decide) rfl) hS (Nat.le_of_ble_eq_true rfl) (Nat.le_of_ble_eq_true rfl) (by rfl) dQu_fits_128
    · have c111 : ¬ v < low := fun h => c111 ((lg_cmp_lt _ _).mpr h)
      refine lv_lload_n hx hb dQu_fits_114 rfl (lv_at hl 1 rfl) ?_
      refine lv_aload_n hx hb dQu_fits_115 rfl (lv_at hl 0 rfl) ?_
      refine va_get (D := D) (ci := 4) (v := .long high) (C := "ColumnForms$Question") (T := TQu) (N := 5) hx hb hts inQu hown hK hP 0 rfl rfl 4 (by decide) (hts _ tw_525) (fun _ h9 => h9) rfl dQu_fits_116 ?_
      refine W.lcmp hx hb dQu_fits_119 ?_
      refine lv_if_gt (tgt := 127) hx hb dQu_fits_120 (by decide) (fun c120 => ?_) (fun c120 => ?_)
      · have c120 : high < v := (lg_cmp_gt _ _).mp c120
        refine lv_iconst (v := nI 0) hx hb dQu_fits_127 (by decide) ?_
        exact hret (nI 0) () _ _ _ _ _ _ ⟨by show _ = qB (decide _ && decide _); rw [decide_eq_false (Int64.not_le.mpr c120), Bool.and_false]; rfl, trivial⟩ (hP.sub [0] rfl) (hD.sub [0] (by decide) rfl) hS (Nat.le_of_ble_eq_true rfl) (Nat.le_of_ble_eq_true rfl) (by rfl) dQu_fits_128
      · have c120 : ¬ high < v := fun h => c120 ((lg_cmp_gt _ _).mpr h)
        refine lv_iconst (v := nI 1) hx hb dQu_fits_123 (by decide) ?_
        refine lv_goto (tgt := 128) hx hb dQu_fits_124 (by decide) ?_
        exact hret (nI 1) () _ _ _ _ _ _ ⟨by show _ = qB (decide _ && decide _); rw [decide_eq_true (Int64.not_lt.mp c111), decide_eq_true (Int64.not_lt.mp c120)]; rfl, trivial⟩ (hP.sub [0] rfl) (hD.sub [0] (by decide) rfl) hS (Nat.le_of_ble_eq_true rfl) (Nat.le_of_ble_eq_true rfl) (by rfl) dQu_fits_128

set_option maxHeartbeats 4000000 in
set_option maxRecDepth 100000 in
theorem c_ask (l : Launch) (D : va_G) (cJ cB cI cF : ClassId) (qq : Nat) (ht_ : Int32) (tt : Int64) (kd : Nat) (low : Int64) (high : Int64) (v : Int64) (tm : Int32) (sz : Nat) (hk : kd < 5) : Met l yQu_ask (Cond.code yQu_ask cQu_ask 4 none :: wsG) ({ frames := 1, cells := 0, slots := 0, locals := 22 }) (va_Pc [.ref qq, .long v, .int tm] (cfPre D (cfT cJ cB cI cF) [(qq, .inr (4, [.int ht_, .long tt, .int (nI kd), .long low, .long high]))] sz)) (va_Qv (fun (u : Int32 × Int64) => (u.1 = ht_ + (if qF kd low high v then tm else 0)) ∧ (u.2 = tt + (if qF kd low high v then v * tm.toInt64 else 0)) ∧ True) (fun u t => cfPost D ((fun (u : Int32 × Int64) => [(qq, .inr (4, [.int u.1, .long u.2, .int (nI kd), .long low, .long high]))]) u) (va_A [(qq, .inr (4, [.int ht_, .long tt, .int (nI kd), .long low, .long high]))] sz) t) (va_A [(qq, .inr (4, [.int ht_, .long tt, .int (nI kd), .long low, .long high]))] sz)) 0 0 (va_A [(qq, .inr (4, [.int ht_, .long tt, .int (nI kd), .long low, .long high]))] sz) := by
  refine met_v (cc := cQu_ask) (maxL := 4) (S := Int32 × Int64) (D := D) (wO := fun (u : Int32 × Int64) => [(qq, .inr (4, [.int u.1, .long u.2, .int (nI kd), .long low, .long high]))]) (by decide) (Nat.le_of_ble_eq_true rfl) ?_
  intro p e s m below meth c hx hb hml hown hts hlocks hin hWd A hA hsz hP hK hD hS Q hret ls hl
  have hown : s.vm.findClass "ColumnForms$Question" = some m.cls := hown
  have hl : lv_has ls 4 [(0, .ref qq), (1, .long v), (3, .int tm)] := hl
  have hP : va_P D vwCl [(qq, .inr (4, [.int ht_, .long tt, .int (nI kd), .long low, .long high]))] s.heap := hP
  refine lv_aload_n hx hb dQu_ask_0 rfl (lv_at hl 0 rfl) ?_
  refine lv_lload_n hx hb dQu_ask_1 rfl (lv_at hl 1 rfl) ?_
  refine kc_i (wc := [(qq, .inr (4, [.int ht_, .long tt, .int (nI kd), .long low, .long high]))]) (wr := []) hP hD hS hA [0] [] rfl rfl (by decide) (by decide) (by decide) (fun hPc hDc => va_runV (As := [.long v]) (rest := []) ⟨hx, hb, hml, hown, hts⟩ (c_fits l D cJ cB cI cF qq ht_ tt kd low high v _ (hk)) (cwV 1 hts (wsG_k tw_555 (wsG_k tw_557 (wsG_k tp_w10 (wsG_k tw_20 (wsG_c tw_558))))) rfl rfl rfl (by decide +kernel) ⟨Nat.le_of_ble_eq_true rfl, Nat.le_of_ble_eq_true rfl⟩) ⟨cf_blind, va_recv hK hPc (ci := 4) (q0 := 0) rfl rfl, cf_pre hPc hK hDc hWd⟩ rfl rfl hl.1 rfl (lv_room (Nat.le_of_ble_eq_true rfl)) dQu_ask_2 ⟨Nat.le_of_ble_eq_true rfl, Nat.le_of_ble_eq_true rfl⟩) (fun r u H locs hw hP hD hS => ?_)
  obtain ⟨rfl, -⟩ := hw
  have hP : va_P D vwCl [(qq, .inr (4, [.int ht_, .long tt, .int (nI kd), .long low, .long high]))] H := hP
  have hD : va_D A [(qq, .inr (4, [.int ht_, .long tt, .int (nI kd), .long low, .long high]))] := hD
  refine lv_if_eq (tgt := 31) hx hb dQu_ask_5 (by decide) (fun c5 => ?_) (fun c5 => ?_)
  · exact hret (ht_, tt) _ _ _ _ _ _ ⟨by rw [qB_f c5]; exact (Int32.add_zero _).symm, by rw [qB_f c5]; exact (Int64.add_zero _).symm, trivial⟩ (hP.sub [0] rfl) (hD.sub [0] (by decide) rfl) hS (Nat.le_of_ble_eq_true rfl) (Nat.le_of_ble_eq_true rfl) dQu_ask_31
  · refine lv_aload_n hx hb dQu_ask_8 rfl (lv_at hl 0 rfl) ?_
    refine lv_dup hx hb dQu_ask_9 rfl ?_
    refine va_get (D := D) (ci := 4) (v := .int ht_) (C := "ColumnForms$Question") (T := TQu) (N := 5) hx hb hts inQu hown hK hP 0 rfl rfl 0 (by decide) (hts _ tw_519) (fun _ h9 => h9) rfl dQu_ask_10 ?_
    refine lv_iload_n hx hb dQu_ask_13 rfl (lv_at hl 2 rfl) ?_
    refine lv_iadd hx hb dQu_ask_14 ?_
    refine va_put (D := D) (ci := 4) (v := .int (ht_ + tm)) (ty := .int) (C := "ColumnForms$Question") (T := TQu) (N := 5) hx hb hts inQu tyQu tyQu_ok nmQu hown hK hP hD hS 0 rfl rfl 0 (by decide) (hts _ tw_519) (fun _ h9 => h9) rfl (by decide +kernel) rfl rfl (Nat.le_of_ble_eq_true rfl) dQu_ask_15 (fun H locs hP hD hS => ?_)
    have hP : va_P D vwCl [(qq, .inr (4, [.int (ht_ + tm), .long tt, .int (nI kd), .long low, .long high]))] H := hP
    have hD : va_D A [(qq, .inr (4, [.int (ht_ + tm), .long tt, .int (nI kd), .long low, .long high]))] := hD
    refine lv_aload_n hx hb dQu_ask_18 rfl (lv_at hl 0 rfl) ?_
    refine lv_dup hx hb dQu_ask_19 rfl ?_
    refine va_get (D := D) (ci := 4) (v := .long tt) (C := "ColumnForms$Question") (T := TQu) (N := 5) hx hb hts inQu hown hK hP 0 rfl rfl 1 (by decide) (hts _ tw_521) (fun _ h9 => h9) rfl dQu_ask_20 ?_
    refine lv_lload_n hx hb dQu_ask_23 rfl (lv_at hl 1 rfl) ?_
    refine lv_iload_n hx hb dQu_ask_24 rfl (lv_at hl 2 rfl) ?_
    refine lv_i2l hx hb dQu_ask_25 rfl ?_
    refine lv_lmul hx hb dQu_ask_26 ?_
    refine lv_ladd hx hb dQu_ask_27 ?_
    refine va_put (D := D) (ci := 4) (v := .long (tt + (v * tm.toInt64))) (ty := .long) (C := "ColumnForms$Question") (T := TQu) (N := 5) hx hb hts inQu tyQu tyQu_ok nmQu hown hK hP hD hS 0 rfl rfl 1 (by decide) (hts _ tw_521) (fun _ h9 => h9) rfl (by decide +kernel) rfl rfl (Nat.le_of_ble_eq_true rfl) dQu_ask_28 (fun H locs hP hD hS => ?_)
    have hP : va_P D vwCl [(qq, .inr (4, [.int (ht_ + tm), .long (tt + (v * tm.toInt64)), .int (nI kd), .long low, .long high]))] H := hP
    have hD : va_D A [(qq, .inr (4, [.int (ht_ + tm), .long (tt + (v * tm.toInt64)), .int (nI kd), .long low, .long high]))] := hD
    exact hret (ht_ + tm, tt + (v * tm.toInt64)) _ _ _ _ _ _ ⟨by rw [qB_t c5]; rfl, by rw [qB_t c5]; rfl, trivial⟩ (hP.sub [0] rfl) (hD.sub [0] (by decide) rfl) hS (Nat.le_of_ble_eq_true rfl) (Nat.le_of_ble_eq_true rfl) dQu_ask_31

