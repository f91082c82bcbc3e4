set_option maxHeartbeats 4000000 in
set_option maxRecDepth 100000 in
theorem c_ssI (l : Launch) (D : va_G) (cJ cB cI cF : ClassId) (qb : Nat) (qo : Nat) (bc : Nat) (o : Nat → Int32) (B : Nat → Bool) (wd : Nat) (sz : Nat) (hc : oB o bc B) (hbm : bc ≤ 81936) (hb0 : 136 ≤ bc) (hf : fld B 128 8 (lN wd)) (hw1 : wd ≤ 64) : Met l ySs_widthIn (Cond.code ySs_widthIn cSs_widthIn 1 (some .int) :: wsG) ({ frames := 2, cells := 0, slots := 0, locals := 51 }) (va_Pc [.ref qb] (cfPre D (cfT cJ cB cI cF) [(qb, .inr (0, [.ref qo, .int (nI bc)])), (qo, .inl (cB, 10242, .inl o))] sz)) (va_Qi (fun (r : Int32) (u : Unit) => r = nI wd ∧ True) (fun u t => cfPost D ((fun (u : Unit) => [(qb, .inr (0, [.ref qo, .int (nI bc)])), (qo, .inl (cB, 10242, .inl o))]) u) (va_A [(qb, .inr (0, [.ref qo, .int (nI bc)])), (qo, .inl (cB, 10242, .inl o))] sz) t) (va_A [(qb, .inr (0, [.ref qo, .int (nI bc)])), (qo, .inl (cB, 10242, .inl o))] sz)) 0 0 (va_A [(qb, .inr (0, [.ref qo, .int (nI bc)])), (qo, .inl (cB, 10242, .inl o))] sz) := by
  refine met_i (cc := cSs_widthIn) (maxL := 1) (S := Unit) (D := D) (wO := fun (u : Unit) => [(qb, .inr (0, [.ref qo, .int (nI bc)])), (qo, .inl (cB, 10242, .inl o))]) (by decide) (Nat.le_of_ble_eq_true rfl) ?_
  intro p e s m below meth c hx hb hml hown hts hlocks hin hWd A hA hsz hP hK hD hS Q hret ls hl
  have hown : s.vm.findClass "ColumnForms$Steps" = some m.cls := hown
  have hl : lv_has ls 1 [(0, .ref qb)] := hl
  have hP : va_P D vwCl [(qb, .inr (0, [.ref qo, .int (nI bc)])), (qo, .inl (cB, 10242, .inl o))] s.heap := hP
  refine lv_aload_n hx hb dSs_widthIn_0 rfl (lv_at hl 0 rfl) ?_
  refine lv_sipush (v := nI 128) hx hb dSs_widthIn_1 (by decide) ?_
  refine lv_bipush (v := nI 8) hx hb dSs_widthIn_4 (by decide) ?_
  refine kc_l (wc := [(qb, .inr (0, [.ref qo, .int (nI bc)])), (qo, .inl (cB, 10242, .inl o))]) (wr := []) hP hD hS hA [0, 1] [] rfl rfl (by decide) (by decide) (by decide) (fun hPc hDc => va_runV (As := [.int (nI 128), .int (nI 8)]) (rest := []) ⟨hx, hb, hml, hown, hts⟩ (c_bitsAt l D cJ cB cI cF qb qo bc o B 128 8 (lN wd) _ (hc) (hbm) (by omega) (by omega) (hf) (lN_small (Nat.lt_of_le_of_lt hw1 (by decide)) (by omega))) (cwV 2 hts (wsG_k tw_499 (wsG_k tw_465 (wsG_k tw_466 (wsG_k tw_3 (wsG_c tw_467))))) rfl rfl rfl (by decide +kernel) ⟨Nat.le_of_ble_eq_true rfl, Nat.le_of_ble_eq_true rfl⟩) ⟨cf_blind, va_recv hK hPc (ci := 0) (q0 := 0) rfl rfl, cf_pre hPc hK hDc hWd⟩ rfl rfl hl.1 rfl (lv_room (Nat.le_of_ble_eq_true rfl)) dSs_widthIn_6 ⟨Nat.le_of_ble_eq_true rfl, Nat.le_of_ble_eq_true rfl⟩) (fun r u H locs hw hP hD hS => ?_)
  obtain ⟨rfl, -⟩ := hw
  have hP : va_P D vwCl [(qb, .inr (0, [.ref qo, .int (nI bc)])), (qo, .inl (cB, 10242, .inl o))] H := hP
  have hD : va_D A [(qb, .inr (0, [.ref qo, .int (nI bc)])), (qo, .inl (cB, 10242, .inl o))] := hD
  refine lv_l2i hx hb dSs_widthIn_9 rfl ?_
  refine tp_i (show ((lN wd).toInt32) = (nI wd) from lN_i _) ?_
  exact hret (nI wd) () _ _ _ _ _ _ ⟨rfl, trivial⟩ (hP.sub [0, 1] rfl) (hD.sub [0, 1] (by decide) rfl) hS (Nat.le_of_ble_eq_true rfl) (Nat.le_of_ble_eq_true rfl) dSs_widthIn_10

set_option maxHeartbeats 4000000 in
set_option maxRecDepth 100000 in
theorem c_ssR (l : Launch) (D : va_G) (cJ cB cI cF : ClassId) (qf : Nat) (qb : Nat) (qo : Nat) (bc : Nat) (o : Nat → Int32) (B : Nat → Bool) (xs : Nat → Int64) (n : Nat) (i : Nat) (sz : Nat) (hc : oB o bc B) (hbm : bc ≤ 81936) (hn : n ≤ 1024) (hL : lS xs n bc B) (hi1 : i < n) : Met l ySs_read (Cond.code ySs_read cSs_read 7 (some .long) :: wsG) ({ frames := 3, cells := 0, slots := 0, locals := 71 }) (va_Pc [.ref qf, .ref qb, .int (nI i)] (cfPre D (cfT cJ cB cI cF) [(qf, .inr (7, [])), (qb, .inr (0, [.ref qo, .int (nI bc)])), (qo, .inl (cB, 10242, .inl o))] sz)) (va_Ql (fun (r : Int64) (u : Unit) => r = xs i ∧ True) (fun u t => cfPost D ((fun (u : Unit) => [(qf, .inr (7, [])), (qb, .inr (0, [.ref qo, .int (nI bc)])), (qo, .inl (cB, 10242, .inl o))]) u) (va_A [(qf, .inr (7, [])), (qb, .inr (0, [.ref qo, .int (nI bc)])), (qo, .inl (cB, 10242, .inl o))] sz) t) (va_A [(qf, .inr (7, [])), (qb, .inr (0, [.ref qo, .int (nI bc)])), (qo, .inl (cB, 10242, .inl o))] sz)) 0 0 (va_A [(qf, .inr (7, [])), (qb, .inr (0, [.ref qo, .int (nI bc)])), (qo, .inl (cB, 10242, .inl o))] sz) := by
  refine met_l (cc := cSs_read) (maxL := 7) (S := Unit) (D := D) (wO := fun (u : Unit) => [(qf, .inr (7, [])), (qb, .inr (0, [.ref qo, .int (nI bc)])), (qo, .inl (cB, 10242, .inl o))]) (by decide) (Nat.le_of_ble_eq_true rfl) ?_
  intro p e s m below meth c hx hb hml hown hts hlocks hin hWd A hA hsz hP hK hD hS Q hret ls hl
  have hown : s.vm.findClass "ColumnForms$Steps" = some m.cls := hown
  have hl : lv_has ls 7 [(0, .ref qf), (1, .ref qb), (2, .int (nI i))] := hl
  have hP : va_P D vwCl [(qf, .inr (7, [])), (qb, .inr (0, [.ref qo, .int (nI bc)])), (qo, .inl (cB, 10242, .inl o))] s.heap := hP
  have k1 := hL.1
  have k2 := hL.2.1
  have k3 := hL.2.2.1
  have k4 := hL.2.2.2.1
  have k5 := hL.2.2.2.2
  have hw1 := wS_le xs n
  refine lv_aload_n hx hb dSs_read_0 rfl (lv_at hl 1 rfl) ?_
  refine kc_i (wc := [(qb, .inr (0, [.ref qo, .int (nI bc)])), (qo, .inl (cB, 10242, .inl o))]) (wr := [(qf, .inr (7, []))]) hP hD hS hA [1, 2] [0] rfl rfl (by decide) (by decide) (by decide) (fun hPc hDc => va_runS (As := [.ref qb]) (rest := []) ⟨hx, hb, hml, hown, hts⟩ (c_ssI l D cJ cB cI cF qb qo bc o B (wS xs n) _ (hc) (hbm) (by omega) (k4) (hw1)) (va_cwS 1 hts (wsG_k tw_496 (wsG_k tw_497 (wsG_k tw_9 (wsG_c tw_498)))) rfl rfl rfl (by decide +kernel) ⟨Nat.le_of_ble_eq_true rfl, Nat.le_of_ble_eq_true rfl⟩) ⟨cf_blind, cf_pre hPc hK hDc hWd⟩ rfl rfl hl.1 rfl (lv_room (Nat.le_of_ble_eq_true rfl)) dSs_read_1 ⟨Nat.le_of_ble_eq_true rfl, Nat.le_of_ble_eq_true rfl⟩) (fun r u H locs hw hP hD hS => ?_)
  obtain ⟨rfl, -⟩ := hw
  have hP : va_P D vwCl [(qf, .inr (7, [])), (qb, .inr (0, [.ref qo, .int (nI bc)])), (qo, .inl (cB, 10242, .inl o))] H := hP
  have hD : va_D A [(qf, .inr (7, [])), (qb, .inr (0, [.ref qo, .int (nI bc)])), (qo, .inl (cB, 10242, .inl o))] := hD
  refine lv_istore_n (lv' := [(3, .int (nI (wS xs n))), (0, .ref qf), (1, .ref qb), (2, .int (nI i))]) hx hb dSs_read_4 rfl hl (by decide) rfl (fun ls hl => ?_)
  refine lv_aload_n hx hb dSs_read_5 rfl (lv_at hl 2 rfl) ?_
  refine lv_iconst (v := nI 0) hx hb dSs_read_6 (by decide) ?_
  refine lv_bipush (v := nI 64) hx hb dSs_read_7 (by decide) ?_
  refine kc_l (wc := [(qb, .inr (0, [.ref qo, .int (nI bc)])), (qo, .inl (cB, 10242, .inl o))]) (wr := [(qf, .inr (7, []))]) hP hD hS hA [1, 2] [0] rfl rfl (by decide) (by decide) (by decide) (fun hPc hDc => va_runV (As := [.int (nI 0), .int (nI 64)]) (rest := []) ⟨hx, hb, hml, hown, hts⟩ (c_bitsAt l D cJ cB cI cF qb qo bc o B 0 64 (xs 0) _ (hc) (hbm) (by omega) (by omega) (k2) (bL_64)) (cwV 2 hts (wsG_k tw_499 (wsG_k tw_465 (wsG_k tw_466 (wsG_k tw_3 (wsG_c tw_467))))) rfl rfl rfl (by decide +kernel) ⟨Nat.le_of_ble_eq_true rfl, Nat.le_of_ble_eq_true rfl⟩) ⟨cf_blind, va_recv hK hPc (ci := 0) (q0 := 0) rfl rfl, cf_pre hPc hK hDc hWd⟩ rfl rfl hl.1 rfl (lv_room (Nat.le_of_ble_eq_true rfl)) dSs_read_9 ⟨Nat.le_of_ble_eq_true rfl, Nat.le_of_ble_eq_true rfl⟩) (fun r u H locs hw hP hD hS => ?_)
  obtain ⟨rfl, -⟩ := hw
  have hP : va_P D vwCl [(qf, .inr (7, [])), (qb, .inr (0, [.ref qo, .int (nI bc)])), (qo, .inl (cB, 10242, .inl o))] H := hP
  have hD : va_D A [(qf, .inr (7, [])), (qb, .inr (0, [.ref qo, .int (nI bc)])), (qo, .inl (cB, 10242, .inl o))] := hD
  refine lv_iload_n hx hb dSs_read_12 rfl (lv_at hl 3 rfl) ?_
  refine lv_i2l hx hb dSs_read_13 rfl ?_
  refine tp_l (show ((nI i).toInt64) = (lN i) from nI_l (by omega)) ?_
  refine lv_aload_n hx hb dSs_read_14 rfl (lv_at hl 2 rfl) ?_
  refine lv_bipush (v := nI 64) hx hb dSs_read_15 (by decide) ?_
  refine lv_bipush (v := nI 64) hx hb dSs_read_17 (by decide) ?_
  refine kc_l (wc := [(qb, .inr (0, [.ref qo, .int (nI bc)])), (qo, .inl (cB, 10242, .inl o))]) (wr := [(qf, .inr (7, []))]) hP hD hS hA [1, 2] [0] rfl rfl (by decide) (by decide) (by decide) (fun hPc hDc => va_runV (As := [.int (nI 64), .int (nI 64)]) (rest := [.long (lN i), .long (xs 0)]) ⟨hx, hb, hml, hown, hts⟩ (c_bitsAt l D cJ cB cI cF qb qo bc o B 64 64 (sLo xs n) _ (hc) (hbm) (by omega) (by omega) (k3) (bL_64)) (cwV 2 hts (wsG_k tw_499 (wsG_k tw_465 (wsG_k tw_466 (wsG_k tw_3 (wsG_c tw_467))))) rfl rfl rfl (by decide +kernel) ⟨Nat.le_of_ble_eq_true rfl, Nat.le_of_ble_eq_true rfl⟩) ⟨cf_blind, va_recv hK hPc (ci := 0) (q0 := 0) rfl rfl, cf_pre hPc hK hDc hWd⟩ rfl rfl hl.1 rfl (lv_room (Nat.le_of_ble_eq_true rfl)) dSs_read_19 ⟨Nat.le_of_ble_eq_true rfl, Nat.le_of_ble_eq_true rfl⟩) (fun r u H locs hw hP hD hS => ?_)
  obtain ⟨rfl, -⟩ := hw
  have hP : va_P D vwCl [(qf, .inr (7, [])), (qb, .inr (0, [.ref qo, .int (nI bc)])), (qo, .inl (cB, 10242, .inl o))] H := hP
  have hD : va_D A [(qf, .inr (7, [])), (qb, .inr (0, [.ref qo, .int (nI bc)])), (qo, .inl (cB, 10242, .inl o))] := hD
  refine lv_lmul hx hb dSs_read_22 ?_
  refine lv_ladd hx hb dSs_read_23 ?_
  refine lv_lstore (lv' := [(4, .long ((xs 0) + ((lN i) * (sLo xs n)))), (3, .int (nI (wS xs n))), (0, .ref qf), (1, .ref qb), (2, .int (nI i))]) hx hb dSs_read_24 hl (by decide) rfl (fun ls hl => ?_)
  refine lv_iconst (v := nI 0) hx hb dSs_read_26 (by decide) ?_
  refine lv_istore (lv' := [(6, .int (nI 0)), (4, .long ((xs 0) + ((lN i) * (sLo xs n)))), (3, .int (nI (wS xs n))), (0, .ref qf), (1, .ref qb), (2, .int (nI i))]) hx hb dSs_read_27 hl (by decide) rfl (fun ls hl => ?_)
  have lp : ∀ (k_lp : Nat) (j : Nat) (vl : Int64), (j ≤ i) → (vl = xs j + lN (i - j) * sLo xs n) → (i - j < k_lp) → ∀ (H : Heap) (locs : List Loc) (ls : Array Slot), va_P D vwCl [(qf, .inr (7, [])), (qb, .inr (0, [.ref qo, .int (nI bc)])), (qo, .inl (cB, 10242, .inl o))] H → va_D A [(qf, .inr (7, [])), (qb, .inr (0, [.ref qo, .int (nI bc)])), (qo, .inl (cB, 10242, .inl o))] → va_S A s.heap H locs → lv_has ls 7 [(0, .ref qf), (1, .ref qb), (2, .int (nI i)), (3, .int (nI (wS xs n))), (4, .long vl), (6, .int (nI j))] → W p l e ({ frames := 3, cells := 0, slots := 0, locals := 71 }) s m ([.ref qf, .ref qb, .int (nI i)].toArray) below meth c H locs (0) (0) Q (F0 m 29 ls []) := by
    intro k_lp
    induction k_lp with
    | zero => intro j vl g1 g2 hfu; exact absurd hfu (by omega)
    | succ k_lp ih_lp =>
      intro j vl g1 g2 hfu H locs ls hP hD hS hl
      refine lv_iload hx hb dSs_read_29 (lv_at hl 5 rfl) ?_
      refine lv_iload_n hx hb dSs_read_31 rfl (lv_at hl 2 rfl) ?_
      refine lv_icmp_ge (tgt := 59) hx hb dSs_read_32 (by decide) (fun c32 => ?_) (fun c32 => ?_)
      · have c32 : i ≤ j := (nI_leI (by omega) (by omega)).mp c32
        refine lv_lload hx hb dSs_read_59 (lv_at hl 4 rfl) ?_
        exact hret vl () _ _ _ _ _ _ ⟨st_e g2 (by omega), trivial⟩ (hP.sub [0, 1, 2] rfl) (hD.sub [0, 1, 2] (by decide) rfl) hS (Nat.le_of_ble_eq_true rfl) (Nat.le_of_ble_eq_true rfl) dSs_read_61
      · have c32 : ¬ i ≤ j := fun h => c32 ((nI_leI (by omega) (by omega)).mpr h)
        have hjl : j < n - 1 := by omega
        have hm := mul_lo (w := wS xs n) hjl
        refine lv_lload hx hb dSs_read_35 (lv_at hl 4 rfl) ?_
        refine lv_aload_n hx hb dSs_read_37 rfl (lv_at hl 1 rfl) ?_
        refine lv_sipush (v := nI 136) hx hb dSs_read_38 (by decide) ?_
        refine lv_iload hx hb dSs_read_41 (lv_at hl 5 rfl) ?_
        refine lv_iload_n hx hb dSs_read_43 rfl (lv_at hl 3 rfl) ?_
        refine lv_imul hx hb dSs_read_44 ?_
        refine tp_i (show ((nI j) * (nI (wS xs n))) = (nI (j * (wS xs n))) from pk_mul _ _) ?_
        refine lv_iadd hx hb dSs_read_45 ?_
        refine tp_i (show ((nI 136) + (nI (j * (wS xs n)))) = (nI (136 + (j * (wS xs n)))) from nI_add _ _) ?_
        refine lv_iload_n hx hb dSs_read_46 rfl (lv_at hl 3 rfl) ?_
        refine kc_l (wc := [(qb, .inr (0, [.ref qo, .int (nI bc)])), (qo, .inl (cB, 10242, .inl o))]) (wr := [(qf, .inr (7, []))]) hP hD hS hA [1, 2] [0] rfl rfl (by decide) (by decide) (by decide) (fun hPc hDc => va_runV (As := [.int (nI (136 + (j * (wS xs n)))), .int (nI (wS xs n))]) (rest := [.long vl]) ⟨hx, hb, hml, hown, hts⟩ (c_bitsAt l D cJ cB cI cF qb qo bc o B (136 + (j * (wS xs n))) (wS xs n) (xs (j + 1) - xs j - sLo xs n) _ (hc) (hbm) (hw1) (by omega) (k5 j hjl) (bL_small (wS_fits (by omega)))) (cwV 2 hts (wsG_k tw_499 (wsG_k tw_465 (wsG_k tw_466 (wsG_k tw_3 (wsG_c tw_467))))) rfl rfl rfl (by decide +kernel) ⟨Nat.le_of_ble_eq_true rfl, Nat.le_of_ble_eq_true rfl⟩) ⟨cf_blind, va_recv hK hPc (ci := 0) (q0 := 0) rfl rfl, cf_pre hPc hK hDc hWd⟩ rfl rfl hl.1 rfl (lv_room (Nat.le_of_ble_eq_true rfl)) dSs_read_47 ⟨Nat.le_of_ble_eq_true rfl, Nat.le_of_ble_eq_true rfl⟩) (fun r u H locs hw hP hD hS => ?_)
        obtain ⟨rfl, -⟩ := hw
        have hP : va_P D vwCl [(qf, .inr (7, [])), (qb, .inr (0, [.ref qo, .int (nI bc)])), (qo, .inl (cB, 10242, .inl o))] H := hP
        have hD : va_D A [(qf, .inr (7, [])), (qb, .inr (0, [.ref qo, .int (nI bc)])), (qo, .inl (cB, 10242, .inl o))] := hD
        refine lv_ladd hx hb dSs_read_50 ?_
        refine lv_lstore (lv' := [(4, .long (vl + (xs (j + 1) - xs j - sLo xs n))), (0, .ref qf), (1, .ref qb), (2, .int (nI i)), (3, .int (nI (wS xs n))), (6, .int (nI j))]) hx hb dSs_read_51 hl (by decide) rfl (fun ls hl => ?_)
        refine lv_iinc (v := nI (j + 1)) (lv' := [(6, .int (nI (j + 1))), (4, .long (vl + (xs (j + 1) - xs j - sLo xs n))), (0, .ref qf), (1, .ref qb), (2, .int (nI i)), (3, .int (nI (wS xs n)))]) hx hb dSs_read_53 hl (k := 5) rfl (by rw [show (Int32.ofInt 1) = nI 1 from by decide]; exact nI_add _ _) (by decide) rfl (fun ls hl => ?_)
        refine lv_goto (tgt := 29) hx hb dSs_read_56 (by decide) ?_
        exact ih_lp (j + 1) (vl + (xs (j + 1) - xs j - sLo xs n)) (by omega) (st_n g2 (by omega)) (by omega) _ _ _ (hP.sub [0, 1, 2] rfl) (hD.sub [0, 1, 2] (by decide) rfl) hS (lv_sub hl [2, 3, 4, 5, 1, 0] rfl)
  exact lp (i - 0 + 1) 0 ((xs 0) + ((lN i) * (sLo xs n))) (Nat.zero_le i) (rfl) (by omega) _ _ _ (hP.sub [0, 1, 2] rfl) (hD.sub [0, 1, 2] (by decide) rfl) hS (lv_sub hl [3, 4, 5, 2, 1, 0] rfl)

set_option maxHeartbeats 4000000 in
set_option maxRecDepth 100000 in
theorem c_ssA (l : Launch) (D : va_G) (cJ cB cI cF : ClassId) (qf : Nat) (qb : Nat) (qo : Nat) (bc : Nat) (o : Nat → Int32) (B : Nat → Bool) (xs : Nat → Int64) (n : Nat) (qq : Nat) (ht_ : Int32) (tt : Int64) (kd : Nat) (low : Int64) (high : Int64) (sz : Nat) (hc : oB o bc B) (hbm : bc ≤ 81936) (hn : n ≤ 1024) (hn0 : 0 < n) (hL : lS xs n bc B) (hk : kd < 5) : Met l ySs_askAll (Cond.code ySs_askAll cSs_askAll 10 none :: wsG) ({ frames := 3, cells := 0, slots := 0, locals := 71 }) (va_Pc [.ref qf, .ref qb, .int (nI n), .ref qq] (cfPre D (cfT cJ cB cI cF) [(qf, .inr (7, [])), (qb, .inr (0, [.ref qo, .int (nI bc)])), (qo, .inl (cB, 10242, .inl o)), (qq, .inr (4, [.int ht_, .long tt, .int (nI kd), .long low, .long high]))] sz)) (va_Qv (fun (u : Int32 × Int64) => (u.1 = ht_ + nI (nC (qF kd low high) xs n)) ∧ (u.2 = tt + nS (qF kd low high) xs n) ∧ True) (fun u t => cfPost D ((fun (u : Int32 × Int64) => [(qf, .inr (7, [])), (qb, .inr (0, [.ref qo, .int (nI bc)])), (qo, .inl (cB, 10242, .inl o)), (qq, .inr (4, [.int u.1, .long u.2, .int (nI kd), .long low, .long high]))]) u) (va_A [(qf, .inr (7, [])), (qb, .inr (0, [.ref qo, .int (nI bc)])), (qo, .inl (cB, 10242, .inl o)), (qq, .inr (4, [.int ht_, .long tt, .int (nI kd), .long low, .long high]))] sz) t) (va_A [(qf, .inr (7, [])), (qb, .inr (0, [.ref qo, .int (nI bc)])), (qo, .inl (cB, 10242, .inl o)), (qq, .inr (4, [.int ht_, .long tt, .int (nI kd), .long low, .long high]))] sz)) 0 0 (va_A [(qf, .inr (7, [])), (qb, .inr (0, [.ref qo, .int (nI bc)])), (qo, .inl (cB, 10242, .inl o)), (qq, .inr (4, [.int ht_, .long tt, .int (nI kd), .long low, .long high]))] sz) := by
  refine met_v (cc := cSs_askAll) (maxL := 10) (S := Int32 × Int64) (D := D) (wO := fun (u : Int32 × Int64) => [(qf, .inr (7, [])), (qb, .inr (0, [.ref qo, .int (nI bc)])), (qo, .inl (cB, 10242, .inl o)), (qq, .inr (4, [.int u.1, .long u.2, .int (nI kd), .long low, .long high]))]) (by decide) (Nat.le_of_ble_eq_true rfl) ?_
  intro p e s m below meth c hx hb hml hown hts hlocks hin hWd A hA hsz hP hK hD hS Q hret ls hl
  have hown : s.vm.findClass "ColumnForms$Steps" = some m.cls := hown
  have hl : lv_has ls 10 [(0, .ref qf), (1, .ref qb), (2, .int (nI n)), (3, .ref qq)] := hl
  have hP : va_P D vwCl [(qf, .inr (7, [])), (qb, .inr (0, [.ref qo, .int (nI bc)])), (qo, .inl (cB, 10242, .inl o)), (qq, .inr (4, [.int ht_, .long tt, .int (nI kd), .long low, .long high]))] s.heap := hP
  have k1 := hL.1
  have k2 := hL.2.1
  have k3 := hL.2.2.1
  have k4 := hL.2.2.2.1
  have k5 := hL.2.2.2.2
  have hw1 := wS_le xs n
  refine lv_aload_n hx hb dSs_askAll_0 rfl (lv_at hl 1 rfl) ?_
  refine kc_i (wc := [(qb, .inr (0, [.ref qo, .int (nI bc)])), (qo, .inl (cB, 10242, .inl o))]) (wr := [(qf, .inr (7, [])), (qq, .inr (4, [.int ht_, .long tt, .int (nI kd), .long low, .long high]))]) hP hD hS hA [1, 2] [0, 3] rfl rfl (by decide) (by decide) (by decide) (fun hPc hDc => va_runS (As := [.ref qb]) (rest := []) ⟨hx, hb, hml, hown, hts⟩ (c_ssI l D cJ cB cI cF qb qo bc o B (wS xs n) _ (hc) (hbm) (by omega) (k4) (hw1)) (va_cwS 1 hts (wsG_k tw_496 (wsG_k tw_497 (wsG_k tw_9 (wsG_c tw_498)))) rfl rfl rfl (by decide +kernel) ⟨Nat.le_of_ble_eq_true rfl, Nat.le_of_ble_eq_true rfl⟩) ⟨cf_blind, cf_pre hPc hK hDc hWd⟩ rfl rfl hl.1 rfl (lv_room (Nat.le_of_ble_eq_true rfl)) dSs_askAll_1 ⟨Nat.le_of_ble_eq_true rfl, Nat.le_of_ble_eq_true rfl⟩) (fun r u H locs hw hP hD hS => ?_)
  obtain ⟨rfl, -⟩ := hw
  have hP : va_P D vwCl [(qf, .inr (7, [])), (qq, .inr (4, [.int ht_, .long tt, .int (nI kd), .long low, .long high])), (qb, .inr (0, [.ref qo, .int (nI bc)])), (qo, .inl (cB, 10242, .inl o))] H := hP
  have hD : va_D A [(qf, .inr (7, [])), (qq, .inr (4, [.int ht_, .long tt, .int (nI kd), .long low, .long high])), (qb, .inr (0, [.ref qo, .int (nI bc)])), (qo, .inl (cB, 10242, .inl o))] := hD
  refine lv_istore (lv' := [(4, .int (nI (wS xs n))), (0, .ref qf), (1, .ref qb), (2, .int (nI n)), (3, .ref qq)]) hx hb dSs_askAll_4 hl (by decide) rfl (fun ls hl => ?_)
  refine lv_aload_n hx hb dSs_askAll_6 rfl (lv_at hl 2 rfl) ?_
  refine lv_bipush (v := nI 64) hx hb dSs_askAll_7 (by decide) ?_
  refine lv_bipush (v := nI 64) hx hb dSs_askAll_9 (by decide) ?_
  refine kc_l (wc := [(qb, .inr (0, [.ref qo, .int (nI bc)])), (qo, .inl (cB, 10242, .inl o))]) (wr := [(qf, .inr (7, [])), (qq, .inr (4, [.int ht_, .long tt, .int (nI kd), .long low, .long high]))]) hP hD hS hA [2, 3] [0, 1] rfl rfl (by decide) (by decide) (by decide) (fun hPc hDc => va_runV (As := [.int (nI 64), .int (nI 64)]) (rest := []) ⟨hx, hb, hml, hown, hts⟩ (c_bitsAt l D cJ cB cI cF qb qo bc o B 64 64 (sLo xs n) _ (hc) (hbm) (by omega) (by omega) (k3) (bL_64)) (cwV 2 hts (wsG_k tw_499 (wsG_k tw_465 (wsG_k tw_466 (wsG_k tw_3 (wsG_c tw_467))))) rfl rfl rfl (by decide +kernel) ⟨Nat.le_of_ble_eq_true rfl, Nat.le_of_ble_eq_true rfl⟩) ⟨cf_blind, va_recv hK hPc (ci := 0) (q0 := 0) rfl rfl, cf_pre hPc hK hDc hWd⟩ rfl rfl hl.1 rfl (lv_room (Nat.le_of_ble_eq_true rfl)) dSs_askAll_11 ⟨Nat.le_of_ble_eq_true rfl, Nat.le_of_ble_eq_true rfl⟩) (fun r u H locs hw hP hD hS => ?_)
  obtain ⟨rfl, -⟩ := hw
  have hP : va_P D vwCl [(qf, .inr (7, [])), (qq, .inr (4, [.int ht_, .long tt, .int (nI kd), .long low, .long high])), (qb, .inr (0, [.ref qo, .int (nI bc)])), (qo, .inl (cB, 10242, .inl o))] H := hP
  have hD : va_D A [(qf, .inr (7, [])), (qq, .inr (4, [.int ht_, .long tt, .int (nI kd), .long low, .long high])), (qb, .inr (0, [.ref qo, .int (nI bc)])), (qo, .inl (cB, 10242, .inl o))] := hD
  refine lv_lstore (lv' := [(5, .long (sLo xs n)), (4, .int (nI (wS xs n))), (0, .ref qf), (1, .ref qb), (2, .int (nI n)), (3, .ref qq)]) hx hb dSs_askAll_14 hl (by decide) rfl (fun ls hl => ?_)
  refine lv_aload_n hx hb dSs_askAll_16 rfl (lv_at hl 3 rfl) ?_
  refine lv_iconst (v := nI 0) hx hb dSs_askAll_17 (by decide) ?_
  refine lv_bipush (v := nI 64) hx hb dSs_askAll_18 (by decide) ?_
  refine kc_l (wc := [(qb, .inr (0, [.ref qo, .int (nI bc)])), (qo, .inl (cB, 10242, .inl o))]) (wr := [(qf, .inr (7, [])), (qq, .inr (4, [.int ht_, .long tt, .int (nI kd), .long low, .long high]))]) hP hD hS hA [2, 3] [0, 1] rfl rfl (by decide) (by decide) (by decide) (fun hPc hDc => va_runV (As := [.int (nI 0), .int (nI 64)]) (rest := []) ⟨hx, hb, hml, hown, hts⟩ (c_bitsAt l D cJ cB cI cF qb qo bc o B 0 64 (xs 0) _ (hc) (hbm) (by omega) (by omega) (k2) (bL_64)) (cwV 2 hts (wsG_k tw_499 (wsG_k tw_465 (wsG_k tw_466 (wsG_k tw_3 (wsG_c tw_467))))) rfl rfl rfl (by decide +kernel) ⟨Nat.le_of_ble_eq_true rfl, Nat.le_of_ble_eq_true rfl⟩) ⟨cf_blind, va_recv hK hPc (ci := 0) (q0 := 0) rfl rfl, cf_pre hPc hK hDc hWd⟩ rfl rfl hl.1 rfl (lv_room (Nat.le_of_ble_eq_true rfl)) dSs_askAll_20 ⟨Nat.le_of_ble_eq_true rfl, Nat.le_of_ble_eq_true rfl⟩) (fun r u H locs hw hP hD hS => ?_)
  obtain ⟨rfl, -⟩ := hw
  have hP : va_P D vwCl [(qf, .inr (7, [])), (qq, .inr (4, [.int ht_, .long tt, .int (nI kd), .long low, .long high])), (qb, .inr (0, [.ref qo, .int (nI bc)])), (qo, .inl (cB, 10242, .inl o))] H := hP
  have hD : va_D A [(qf, .inr (7, [])), (qq, .inr (4, [.int ht_, .long tt, .int (nI kd), .long low, .long high])), (qb, .inr (0, [.ref qo, .int (nI bc)])), (qo, .inl (cB, 10242, .inl o))] := hD
  refine lv_lstore (lv' := [(7, .long (xs 0)), (5, .long (sLo xs n)), (4, .int (nI (wS xs n))), (0, .ref qf), (1, .ref qb), (2, .int (nI n)), (3, .ref qq)]) hx hb dSs_askAll_23 hl (by decide) rfl (fun ls hl => ?_)
  refine lv_aload_n hx hb dSs_askAll_25 rfl (lv_at hl 6 rfl) ?_
  refine lv_lload hx hb dSs_askAll_26 (lv_at hl 0 rfl) ?_
  refine lv_iconst (v := nI 1) hx hb dSs_askAll_28 (by decide) ?_
  refine kc_v (wc := [(qq, .inr (4, [.int ht_, .long tt, .int (nI kd), .long low, .long high]))]) (wr := [(qf, .inr (7, [])), (qb, .inr (0, [.ref qo, .int (nI bc)])), (qo, .inl (cB, 10242, .inl o))]) hP hD hS hA [1] [0, 2, 3] rfl rfl (by decide) (by decide) (by decide) (fun hPc hDc => va_runV (As := [.long (xs 0), .int (nI 1)]) (rest := []) ⟨hx, hb, hml, hown, hts⟩ (c_ask l D cJ cB cI cF qq ht_ tt kd low high (xs 0) (nI 1) _ (hk)) (cwV 2 hts (wsG_k tw_575 (wsG_k tw_552 (wsG_k tw_553 (wsG_k tw_20 (wsG_c tw_554))))) rfl rfl rfl (by decide +kernel) ⟨Nat.le_of_ble_eq_true rfl, Nat.le_of_ble_eq_true rfl⟩) ⟨cf_blind, va_recv hK hPc (ci := 4) (q0 := 0) rfl rfl, cf_pre hPc hK hDc hWd⟩ rfl rfl hl.1 rfl (lv_room (Nat.le_of_ble_eq_true rfl)) dSs_askAll_29 ⟨Nat.le_of_ble_eq_true rfl, Nat.le_of_ble_eq_true rfl⟩) (fun u H locs hw hP hD hS => ?_)
  obtain ⟨h2_1, t2_2⟩ := u
  obtain ⟨b1, b2, -⟩ := hw
  have b1 : h2_1 = ht_ + (if qF kd low high (xs 0) then (nI 1) else 0) := b1
  have b2 : t2_2 = tt + (if qF kd low high (xs 0) then (xs 0) * (nI 1).toInt64 else 0) := b2
  have hP : va_P D vwCl [(qf, .inr (7, [])), (qb, .inr (0, [.ref qo, .int (nI bc)])), (qo, .inl (cB, 10242, .inl o)), (qq, .inr (4, [.int h2_1, .long t2_2, .int (nI kd), .long low, .long high]))] H := hP
  have hD : va_D A [(qf, .inr (7, [])), (qb, .inr (0, [.ref qo, .int (nI bc)])), (qo, .inl (cB, 10242, .inl o)), (qq, .inr (4, [.int h2_1, .long t2_2, .int (nI kd), .long low, .long high]))] := hD
  refine lv_iconst (v := nI 0) hx hb dSs_askAll_32 (by decide) ?_
  refine lv_istore (lv' := [(9, .int (nI 0)), (7, .long (xs 0)), (5, .long (sLo xs n)), (4, .int (nI (wS xs n))), (0, .ref qf), (1, .ref qb), (2, .int (nI n)), (3, .ref qq)]) hx hb dSs_askAll_33 hl (by decide) rfl (fun ls hl => ?_)
  have lp : ∀ (k_lp : Nat) (j : Nat) (h1 : Int32) (t1 : Int64), (j + 1 ≤ n) → (h1 = ht_ + nI (nC (qF kd low high) xs (j + 1))) → (t1 = tt + nS (qF kd low high) xs (j + 1)) → (n - j < k_lp) → ∀ (H : Heap) (locs : List Loc) (ls : Array Slot), va_P D vwCl [(qf, .inr (7, [])), (qb, .inr (0, [.ref qo, .int (nI bc)])), (qo, .inl (cB, 10242, .inl o)), (qq, .inr (4, [.int h1, .long t1, .int (nI kd), .long low, .long high]))] H → va_D A [(qf, .inr (7, [])), (qb, .inr (0, [.ref qo, .int (nI bc)])), (qo, .inl (cB, 10242, .inl o)), (qq, .inr (4, [.int h1, .long t1, .int (nI kd), .long low, .long high]))] → va_S A s.heap H locs → lv_has ls 10 [(0, .ref qf), (1, .ref qb), (2, .int (nI n)), (3, .ref qq), (4, .int (nI (wS xs n))), (5, .long (sLo xs n)), (7, .long (xs j)), (9, .int (nI j))] → W p l e ({ frames := 3, cells := 0, slots := 0, locals := 71 }) s m ([.ref qf, .ref qb, .int (nI n), .ref qq].toArray) below meth c H locs (0) (0) Q (F0 m 35 ls []) := by
    intro k_lp
    induction k_lp with
    | zero => intro j h1 t1 g1 g2 g3 hfu; exact absurd hfu (by omega)
    | succ k_lp ih_lp =>
      intro j h1 t1 g1 g2 g3 hfu H locs ls hP hD hS hl
      refine lv_iload hx hb dSs_askAll_35 (lv_at hl 7 rfl) ?_
      refine lv_iload_n hx hb dSs_askAll_37 rfl (lv_at hl 2 rfl) ?_
      refine lv_iconst (v := nI 1) hx hb dSs_askAll_38 (by decide) ?_
      refine lv_isub hx hb dSs_askAll_39 ?_
      refine tp_i (show ((nI n) - (nI 1)) = (nI (n - 1)) from pk_sub (by omega)) ?_
      refine lv_icmp_ge (tgt := 79) hx hb dSs_askAll_40 (by decide) (fun c40 => ?_) (fun c40 => ?_)
      · have c40 : (n - 1) ≤ j := (nI_leI (by omega) (by omega)).mp c40
        exact hret (h1, t1) _ _ _ _ _ _ ⟨by show h1 = _; rw [g2, show j + 1 = n by omega], by show t1 = _; rw [g3, show j + 1 = n by omega], trivial⟩ (hP.sub [0, 1, 2, 3] rfl) (hD.sub [0, 1, 2, 3] (by decide) rfl) hS (Nat.le_of_ble_eq_true rfl) (Nat.le_of_ble_eq_true rfl) dSs_askAll_79
      · have c40 : ¬ (n - 1) ≤ j := fun h => c40 ((nI_leI (by omega) (by omega)).mpr h)
        have hjl : j < n - 1 := by omega
        have hm := mul_lo (w := wS xs n) hjl
        refine lv_lload hx hb dSs_askAll_43 (lv_at hl 6 rfl) ?_
        refine lv_lload hx hb dSs_askAll_45 (lv_at hl 5 rfl) ?_
        refine lv_aload_n hx hb dSs_askAll_47 rfl (lv_at hl 1 rfl) ?_
        refine lv_sipush (v := nI 136) hx hb dSs_askAll_48 (by decide) ?_
        refine lv_iload hx hb dSs_askAll_51 (lv_at hl 7 rfl) ?_
        refine lv_iload hx hb dSs_askAll_53 (lv_at hl 4 rfl) ?_
        refine lv_imul hx hb dSs_askAll_55 ?_
        refine tp_i (show ((nI j) * (nI (wS xs n))) = (nI (j * (wS xs n))) from pk_mul _ _) ?_
        refine lv_iadd hx hb dSs_askAll_56 ?_
        refine tp_i (show ((nI 136) + (nI (j * (wS xs n)))) = (nI (136 + (j * (wS xs n)))) from nI_add _ _) ?_
        refine lv_iload hx hb dSs_askAll_57 (lv_at hl 4 rfl) ?_
        refine kc_l (wc := [(qb, .inr (0, [.ref qo, .int (nI bc)])), (qo, .inl (cB, 10242, .inl o))]) (wr := [(qf, .inr (7, [])), (qq, .inr (4, [.int h1, .long t1, .int (nI kd), .long low, .long high]))]) hP hD hS hA [1, 2] [0, 3] rfl rfl (by decide) (by decide) (by decide) (fun hPc hDc => va_runV (As := [.int (nI (136 + (j * (wS xs n)))), .int (nI (wS xs n))]) (rest := [.long (sLo xs n), .long (xs j)]) ⟨hx, hb, hml, hown, hts⟩ (c_bitsAt l D cJ cB cI cF qb qo bc o B (136 + (j * (wS xs n))) (wS xs n) (xs (j + 1) - xs j - sLo xs n) _ (hc) (hbm) (hw1) (by omega) (k5 j hjl) (bL_small (wS_fits (by omega)))) (cwV 2 hts (wsG_k tw_499 (wsG_k tw_465 (wsG_k tw_466 (wsG_k tw_3 (wsG_c tw_467))))) rfl rfl rfl (by decide +kernel) ⟨Nat.le_of_ble_eq_true rfl, Nat.le_of_ble_eq_true rfl⟩) ⟨cf_blind, va_recv hK hPc (ci := 0) (q0 := 0) rfl rfl, cf_pre hPc hK hDc hWd⟩ rfl rfl hl.1 rfl (lv_room (Nat.le_of_ble_eq_true rfl)) dSs_askAll_59 ⟨Nat.le_of_ble_eq_true rfl, Nat.le_of_ble_eq_true rfl⟩) (fun r u H locs hw hP hD hS => ?_)
        obtain ⟨rfl, -⟩ := hw
        have hP : va_P D vwCl [(qf, .inr (7, [])), (qq, .inr (4, [.int h1, .long t1, .int (nI kd), .long low, .long high])), (qb, .inr (0, [.ref qo, .int (nI bc)])), (qo, .inl (cB, 10242, .inl o))] H := hP
        have hD : va_D A [(qf, .inr (7, [])), (qq, .inr (4, [.int h1, .long t1, .int (nI kd), .long low, .long high])), (qb, .inr (0, [.ref qo, .int (nI bc)])), (qo, .inl (cB, 10242, .inl o))] := hD
        refine lv_ladd hx hb dSs_askAll_62 ?_
        refine lv_ladd hx hb dSs_askAll_63 ?_
        refine tp_l (show ((xs j) + ((sLo xs n) + (xs (j + 1) - xs j - sLo xs n))) = (xs (j + 1)) from l_st1 _ _ _) ?_
        refine lv_lstore (lv' := [(7, .long (xs (j + 1))), (0, .ref qf), (1, .ref qb), (2, .int (nI n)), (3, .ref qq), (4, .int (nI (wS xs n))), (5, .long (sLo xs n)), (9, .int (nI j))]) hx hb dSs_askAll_64 hl (by decide) rfl (fun ls hl => ?_)
        refine lv_aload_n hx hb dSs_askAll_66 rfl (lv_at hl 4 rfl) ?_
        refine lv_lload hx hb dSs_askAll_67 (lv_at hl 0 rfl) ?_
        refine lv_iconst (v := nI 1) hx hb dSs_askAll_69 (by decide) ?_
        refine kc_v (wc := [(qq, .inr (4, [.int h1, .long t1, .int (nI kd), .long low, .long high]))]) (wr := [(qf, .inr (7, [])), (qb, .inr (0, [.ref qo, .int (nI bc)])), (qo, .inl (cB, 10242, .inl o))]) hP hD hS hA [1] [0, 2, 3] rfl rfl (by decide) (by decide) (by decide) (fun hPc hDc => va_runV (As := [.long (xs (j + 1)), .int (nI 1)]) (rest := []) ⟨hx, hb, hml, hown, hts⟩ (c_ask l D cJ cB cI cF qq h1 t1 kd low high (xs (j + 1)) (nI 1) _ (hk)) (cwV 2 hts (wsG_k tw_575 (wsG_k tw_552 (wsG_k tw_553 (wsG_k tw_20 (wsG_c tw_554))))) rfl rfl rfl (by decide +kernel) ⟨Nat.le_of_ble_eq_true rfl, Nat.le_of_ble_eq_true rfl⟩) ⟨cf_blind, va_recv hK hPc (ci := 4) (q0 := 0) rfl rfl, cf_pre hPc hK hDc hWd⟩ rfl rfl hl.1 rfl (lv_room (Nat.le_of_ble_eq_true rfl)) dSs_askAll_70 ⟨Nat.le_of_ble_eq_true rfl, Nat.le_of_ble_eq_true rfl⟩) (fun u H locs hw hP hD hS => ?_)
        obtain ⟨h2_3, t2_4⟩ := u
        obtain ⟨a1, a2, -⟩ := hw
        have a1 : h2_3 = h1 + (if qF kd low high (xs (j + 1)) then (nI 1) else 0) := a1
        have a2 : t2_4 = t1 + (if qF kd low high (xs (j + 1)) then (xs (j + 1)) * (nI 1).toInt64 else 0) := a2
        have hP : va_P D vwCl [(qf, .inr (7, [])), (qb, .inr (0, [.ref qo, .int (nI bc)])), (qo, .inl (cB, 10242, .inl o)), (qq, .inr (4, [.int h2_3, .long t2_4, .int (nI kd), .long low, .long high]))] H := hP
        have hD : va_D A [(qf, .inr (7, [])), (qb, .inr (0, [.ref qo, .int (nI bc)])), (qo, .inl (cB, 10242, .inl o)), (qq, .inr (4, [.int h2_3, .long t2_4, .int (nI kd), .long low, .long high]))] := hD
        refine lv_iinc (v := nI (j + 1)) (lv' := [(9, .int (nI (j + 1))), (7, .long (xs (j + 1))), (0, .ref qf), (1, .ref qb), (2, .int (nI n)), (3, .ref qq), (4, .int (nI (wS xs n))), (5, .long (sLo xs n))]) hx hb dSs_askAll_73 hl (k := 7) rfl (by rw [show (Int32.ofInt 1) = nI 1 from by decide]; exact nI_add _ _) (by decide) rfl (fun ls hl => ?_)
        refine lv_goto (tgt := 35) hx hb dSs_askAll_76 (by decide) ?_
        exact ih_lp (j + 1) h2_3 t2_4 (by omega) (ask_c g2 a1) (ask_s g3 a2) (by omega) _ _ _ (hP.sub [0, 1, 2, 3] rfl) (hD.sub [0, 1, 2, 3] (by decide) rfl) hS (lv_sub hl [2, 3, 4, 5, 6, 7, 1, 0] rfl)
  exact lp (n - 0 + 1) 0 h2_1 t2_2 (by omega) (ask_c (Int32.add_zero _).symm b1) (ask_s (Int64.add_zero _).symm b2) (by omega) _ _ _ (hP.sub [0, 1, 2, 3] rfl) (hD.sub [0, 1, 2, 3] (by decide) rfl) hS (lv_sub hl [4, 5, 6, 7, 3, 2, 1, 0] rfl)

set_option maxHeartbeats 4000000 in
set_option maxRecDepth 100000 in
theorem c_liF (l : Launch) (D : va_G) (cJ cB cI cF : ClassId) (k : Nat) (sz : Nat) : Met l yLi_placesFrom (Cond.code yLi_placesFrom cLi_placesFrom 1 (some .int) :: wsG) ({ frames := 0, cells := 0, slots := 0, locals := 0 }) (va_Pc [.int (nI k)] (cfPre D (cfT cJ cB cI cF) [] sz)) (va_Qi (fun (r : Int32) (u : Unit) => r = nI (16 + 64 * k) ∧ True) (fun u t => cfPost D ((fun (u : Unit) => []) u) (va_A [] sz) t) (va_A [] sz)) 0 0 (va_A [] sz) := by
  refine met_i (cc := cLi_placesFrom) (maxL := 1) (S := Unit) (D := D) (wO := fun (u : Unit) => []) (by decide) (Nat.le_of_ble_eq_true rfl) ?_
  intro p e s m below meth c hx hb hml hown hts hlocks hin hWd A hA hsz hP hK hD hS Q hret ls hl
  have hown : s.vm.findClass "ColumnForms$Listed" = some m.cls := hown
  have hl : lv_has ls 1 [(0, .int (nI k))] := hl
  have hP : va_P D vwCl [] s.heap := hP
  refine lv_bipush (v := nI 16) hx hb dLi_placesFrom_0 (by decide) ?_
  refine lv_bipush (v := nI 64) hx hb dLi_placesFrom_2 (by decide) ?_
  refine lv_iload_n hx hb dLi_placesFrom_4 rfl (lv_at hl 0 rfl) ?_
  refine lv_imul hx hb dLi_placesFrom_5 ?_
  refine tp_i (show ((nI 64) * (nI k)) = (nI (64 * k)) from pk_mul _ _) ?_
  refine lv_iadd hx hb dLi_placesFrom_6 ?_
  refine tp_i (show ((nI 16) + (nI (64 * k))) = (nI (16 + (64 * k))) from nI_add _ _) ?_
  exact hret (nI (16 + (64 * k))) () _ _ _ _ _ _ ⟨rfl, trivial⟩ (hP.sub [] rfl) (hD.sub [] (by decide) rfl) hS (Nat.le_of_ble_eq_true rfl) (Nat.le_of_ble_eq_true rfl) dLi_placesFrom_7

set_option maxHeartbeats 4000000 in
set_option maxRecDepth 100000 in
theorem c_liW (l : Launch) (D : va_G) (cJ cB cI cF : ClassId) (qf : Nat) (qt : Nat) (qr : Nat) (n : Nat) (d : Nat) (rn : Nat) (lo : Int64) (hi : Int64) (sl : Int64) (sh : Int64) (qc : Nat) (qs : Nat) (sz : Nat) (hn : n ≤ 1024) (hd : d ≤ 1024) (hd0 : 0 < d) : Met l yLi_weigh (Cond.code yLi_weigh cLi_weigh 2 (some .int) :: wsG) ({ frames := 3, cells := 0, slots := 0, locals := 64 }) (va_Pc [.ref qf, .ref qr] (cfPre D (cfT cJ cB cI cF) [(qf, .inr (1, [.ref qt])), (qr, .inr (5, [.int (nI n), .int (nI d), .int (nI rn), .long lo, .long hi, .long sl, .long sh, .ref qc, .ref qs]))] sz)) (va_Qi (fun (r : Int32) (u : Unit) => r = nI ((16 + 64 * d + n * bln (d - 1) + 7) / 8) ∧ True) (fun u t => cfPost D ((fun (u : Unit) => [(qf, .inr (1, [.ref qt])), (qr, .inr (5, [.int (nI n), .int (nI d), .int (nI rn), .long lo, .long hi, .long sl, .long sh, .ref qc, .ref qs]))]) u) (va_A [(qf, .inr (1, [.ref qt])), (qr, .inr (5, [.int (nI n), .int (nI d), .int (nI rn), .long lo, .long hi, .long sl, .long sh, .ref qc, .ref qs]))] sz) t) (va_A [(qf, .inr (1, [.ref qt])), (qr, .inr (5, [.int (nI n), .int (nI d), .int (nI rn), .long lo, .long hi, .long sl, .long sh, .ref qc, .ref qs]))] sz)) 0 0 (va_A [(qf, .inr (1, [.ref qt])), (qr, .inr (5, [.int (nI n), .int (nI d), .int (nI rn), .long lo, .long hi, .long sl, .long sh, .ref qc, .ref qs]))] sz) := by
  refine met_i (cc := cLi_weigh) (maxL := 2) (S := Unit) (D := D) (wO := fun (u : Unit) => [(qf, .inr (1, [.ref qt])), (qr, .inr (5, [.int (nI n), .int (nI d), .int (nI rn), .long lo, .long hi, .long sl, .long sh, .ref qc, .ref qs]))]) (by decide) (Nat.le_of_ble_eq_true rfl) ?_
  intro p e s m below meth c hx hb hml hown hts hlocks hin hWd A hA hsz hP hK hD hS Q hret ls hl
  have hown : s.vm.findClass "ColumnForms$Listed" = some m.cls := hown
  have hl : lv_has ls 2 [(0, .ref qf), (1, .ref qr)] := hl
  have hP : va_P D vwCl [(qf, .inr (1, [.ref qt])), (qr, .inr (5, [.int (nI n), .int (nI d), .int (nI rn), .long lo, .long hi, .long sl, .long sh, .ref qc, .ref qs]))] s.heap := hP
  have hw2 : n * bln (d - 1) ≤ 1024 * 10 := Nat.mul_le_mul hn (bln_d hd)
  refine lv_aload_n hx hb dLi_weigh_0 rfl (lv_at hl 1 rfl) ?_
  refine va_get (D := D) (ci := 5) (v := .int (nI d)) (C := "ColumnForms$Row") (T := TRo) (N := 9) hx hb hts inRo hown hK hP 1 rfl rfl 1 (by decide) (hts _ tw_43) (fun _ h9 => h9) rfl dLi_weigh_1 ?_
  refine kc_i (wc := []) (wr := [(qf, .inr (1, [.ref qt])), (qr, .inr (5, [.int (nI n), .int (nI d), .int (nI rn), .long lo, .long hi, .long sl, .long sh, .ref qc, .ref qs]))]) hP hD hS hA [] [0, 1] rfl rfl (by decide) (by decide) (by decide) (fun hPc hDc => va_runS (As := [.int (nI d)]) (rest := []) ⟨hx, hb, hml, hown, hts⟩ (c_liF l D cJ cB cI cF d _) (va_cwS 1 hts (wsG_k tw_332 (wsG_k tw_333 (wsG_k tw_7 (wsG_c tw_334)))) rfl rfl rfl (by decide +kernel) ⟨Nat.le_of_ble_eq_true rfl, Nat.le_of_ble_eq_true rfl⟩) ⟨cf_blind, cf_pre hPc hK hDc hWd⟩ rfl rfl hl.1 rfl (lv_room (Nat.le_of_ble_eq_true rfl)) dLi_weigh_4 ⟨Nat.le_of_ble_eq_true rfl, Nat.le_of_ble_eq_true rfl⟩) (fun r u H locs hw hP hD hS => ?_)
  obtain ⟨rfl, -⟩ := hw
  have hP : va_P D vwCl [(qf, .inr (1, [.ref qt])), (qr, .inr (5, [.int (nI n), .int (nI d), .int (nI rn), .long lo, .long hi, .long sl, .long sh, .ref qc, .ref qs]))] H := hP
  have hD : va_D A [(qf, .inr (1, [.ref qt])), (qr, .inr (5, [.int (nI n), .int (nI d), .int (nI rn), .long lo, .long hi, .long sl, .long sh, .ref qc, .ref qs]))] := hD
  refine lv_aload_n hx hb dLi_weigh_7 rfl (lv_at hl 1 rfl) ?_
  refine va_get (D := D) (ci := 5) (v := .int (nI n)) (C := "ColumnForms$Row") (T := TRo) (N := 9) hx hb hts inRo hown hK hP 1 rfl rfl 0 (by decide) (hts _ tw_41) (fun _ h9 => h9) rfl dLi_weigh_8 ?_
  refine lv_aload_n hx hb dLi_weigh_11 rfl (lv_at hl 1 rfl) ?_
  refine va_get (D := D) (ci := 5) (v := .int (nI d)) (C := "ColumnForms$Row") (T := TRo) (N := 9) hx hb hts inRo hown hK hP 1 rfl rfl 1 (by decide) (hts _ tw_43) (fun _ h9 => h9) rfl dLi_weigh_12 ?_
  refine lv_iconst (v := nI 1) hx hb dLi_weigh_15 (by decide) ?_
  refine lv_isub hx hb dLi_weigh_16 ?_
  refine tp_i (show ((nI d) - (nI 1)) = (nI (d - 1)) from pk_sub (by omega)) ?_
  refine lv_i2l hx hb dLi_weigh_17 rfl ?_
  refine tp_l (show ((nI (d - 1)).toInt64) = (lN (d - 1)) from nI_l (by omega)) ?_
  refine kc_i (wc := []) (wr := [(qf, .inr (1, [.ref qt])), (qr, .inr (5, [.int (nI n), .int (nI d), .int (nI rn), .long lo, .long hi, .long sl, .long sh, .ref qc, .ref qs]))]) hP hD hS hA [] [0, 1] rfl rfl (by decide) (by decide) (by decide) (fun hPc hDc => va_runSN (As := [.long (lN (d - 1))]) (rest := [.int (nI n), .int (nI (16 + 64 * d))]) ⟨hx, hb, hml, hown, hts⟩ (c_bits l D cJ cB cI cF (lN (d - 1)) _) (⟨va_cnB 1 hts (wsG_c tw_337) rfl rfl rfl (hWd.nest 13 rfl) (hts _ tw_1) (by decide +kernel) ⟨Nat.le_of_ble_eq_true rfl, Nat.le_of_ble_eq_true rfl⟩, hts _ tw_336, trivial⟩) ⟨cf_blind, cf_pre hPc hK hDc hWd⟩ rfl rfl hl.1 rfl (lv_room (Nat.le_of_ble_eq_true rfl)) dLi_weigh_18 ⟨Nat.le_of_ble_eq_true rfl, Nat.le_of_ble_eq_true rfl⟩) (fun r u H locs hw hP hD hS => ?_)
  obtain ⟨rfl, -⟩ := hw
  have hP : va_P D vwCl [(qf, .inr (1, [.ref qt])), (qr, .inr (5, [.int (nI n), .int (nI d), .int (nI rn), .long lo, .long hi, .long sl, .long sh, .ref qc, .ref qs]))] H := hP
  have hD : va_D A [(qf, .inr (1, [.ref qt])), (qr, .inr (5, [.int (nI n), .int (nI d), .int (nI rn), .long lo, .long hi, .long sl, .long sh, .ref qc, .ref qs]))] := hD
  refine tp_i (show (nI (bln (uN (lN (d - 1))))) = (nI (bln (d - 1))) from congrArg (fun z => nI (bln z)) (uN_lN (by omega))) ?_
  refine lv_imul hx hb dLi_weigh_21 ?_
  refine tp_i (show ((nI n) * (nI (bln (d - 1)))) = (nI (n * (bln (d - 1)))) from pk_mul _ _) ?_
  refine lv_iadd hx hb dLi_weigh_22 ?_
  refine tp_i (show ((nI (16 + 64 * d)) + (nI (n * (bln (d - 1))))) = (nI ((16 + 64 * d) + (n * (bln (d - 1))))) from nI_add _ _) ?_
  refine kc_i (wc := []) (wr := [(qf, .inr (1, [.ref qt])), (qr, .inr (5, [.int (nI n), .int (nI d), .int (nI rn), .long lo, .long hi, .long sl, .long sh, .ref qc, .ref qs]))]) hP hD hS hA [] [0, 1] rfl rfl (by decide) (by decide) (by decide) (fun hPc hDc => va_runSN (As := [.int (nI ((16 + 64 * d) + (n * (bln (d - 1)))))]) (rest := []) ⟨hx, hb, hml, hown, hts⟩ (c_whole l D cJ cB cI cF ((16 + 64 * d) + (n * (bln (d - 1)))) _ (by omega)) (⟨va_cnB 1 hts (wsG_c tw_173) rfl rfl rfl (hWd.nest 14 rfl) (hts _ tw_1) (by decide +kernel) ⟨Nat.le_of_ble_eq_true rfl, Nat.le_of_ble_eq_true rfl⟩, hts _ tw_172, trivial⟩) ⟨cf_blind, cf_pre hPc hK hDc hWd⟩ rfl rfl hl.1 rfl (lv_room (Nat.le_of_ble_eq_true rfl)) dLi_weigh_23 ⟨Nat.le_of_ble_eq_true rfl, Nat.le_of_ble_eq_true rfl⟩) (fun r u H locs hw hP hD hS => ?_)
  obtain ⟨rfl, -⟩ := hw
  have hP : va_P D vwCl [(qf, .inr (1, [.ref qt])), (qr, .inr (5, [.int (nI n), .int (nI d), .int (nI rn), .long lo, .long hi, .long sl, .long sh, .ref qc, .ref qs]))] H := hP
  have hD : va_D A [(qf, .inr (1, [.ref qt])), (qr, .inr (5, [.int (nI n), .int (nI d), .int (nI rn), .long lo, .long hi, .long sl, .long sh, .ref qc, .ref qs]))] := hD
  exact hret (nI ((((16 + 64 * d) + (n * (bln (d - 1)))) + 7) / 8)) () _ _ _ _ _ _ ⟨rfl, trivial⟩ (hP.sub [0, 1] rfl) (hD.sub [0, 1] (by decide) rfl) hS (Nat.le_of_ble_eq_true rfl) (Nat.le_of_ble_eq_true rfl) dLi_weigh_26

set_option maxHeartbeats 4000000 in
set_option maxRecDepth 100000 in
theorem c_liD (l : Launch) (D : va_G) (cJ cB cI cF : ClassId) (qb : Nat) (qo : Nat) (bc : Nat) (o : Nat → Int32) (B : Nat → Bool) (d : Nat) (sz : Nat) (hc : oB o bc B) (hbm : bc ≤ 81936) (hb0 : 16 ≤ bc) (hf : fld B 0 16 (lN d)) (hd : d ≤ 1024) : Met l yLi_differentIn (Cond.code yLi_differentIn cLi_differentIn 1 (some .int) :: wsG) ({ frames := 2, cells := 0, slots := 0, locals := 51 }) (va_Pc [.ref qb] (cfPre D (cfT cJ cB cI cF) [(qb, .inr (0, [.ref qo, .int (nI bc)])), (qo, .inl (cB, 10242, .inl o))] sz)) (va_Qi (fun (r : Int32) (u : Unit) => r = nI d ∧ True) (fun u t => cfPost D ((fun (u : Unit) => [(qb, .inr (0, [.ref qo, .int (nI bc)])), (qo, .inl (cB, 10242, .inl o))]) u) (va_A [(qb, .inr (0, [.ref qo, .int (nI bc)])), (qo, .inl (cB, 10242, .inl o))] sz) t) (va_A [(qb, .inr (0, [.ref qo, .int (nI bc)])), (qo, .inl (cB, 10242, .inl o))] sz)) 0 0 (va_A [(qb, .inr (0, [.ref qo, .int (nI bc)])), (qo, .inl (cB, 10242, .inl o))] sz) := by
  refine met_i (cc := cLi_differentIn) (maxL := 1) (S := Unit) (D := D) (wO := fun (u : Unit) => [(qb, .inr (0, [.ref qo, .int (nI bc)])), (qo, .inl (cB, 10242, .inl o))]) (by decide) (Nat.le_of_ble_eq_true rfl) ?_
  intro p e s m below meth c hx hb hml hown hts hlocks hin hWd A hA hsz hP hK hD hS Q hret ls hl
  have hown : s.vm.findClass "ColumnForms$Listed" = some m.cls := hown
  have hl : lv_has ls 1 [(0, .ref qb)] := hl
  have hP : va_P D vwCl [(qb, .inr (0, [.ref qo, .int (nI bc)])), (qo, .inl (cB, 10242, .inl o))] s.heap := hP
  refine lv_aload_n hx hb dLi_differentIn_0 rfl (lv_at hl 0 rfl) ?_
  refine lv_iconst (v := nI 0) hx hb dLi_differentIn_1 (by decide) ?_
  refine lv_bipush (v := nI 16) hx hb dLi_differentIn_2 (by decide) ?_
  refine kc_l (wc := [(qb, .inr (0, [.ref qo, .int (nI bc)])), (qo, .inl (cB, 10242, .inl o))]) (wr := []) hP hD hS hA [0, 1] [] rfl rfl (by decide) (by decide) (by decide) (fun hPc hDc => va_runV (As := [.int (nI 0), .int (nI 16)]) (rest := []) ⟨hx, hb, hml, hown, hts⟩ (c_bitsAt l D cJ cB cI cF qb qo bc o B 0 16 (lN d) _ (hc) (hbm) (by omega) (by omega) (hf) (lN_small (Nat.lt_of_le_of_lt hd (by decide)) (by omega))) (cwV 2 hts (wsG_k tw_464 (wsG_k tw_465 (wsG_k tw_466 (wsG_k tw_3 (wsG_c tw_467))))) rfl rfl rfl (by decide +kernel) ⟨Nat.le_of_ble_eq_true rfl, Nat.le_of_ble_eq_true rfl⟩) ⟨cf_blind, va_recv hK hPc (ci := 0) (q0 := 0) rfl rfl, cf_pre hPc hK hDc hWd⟩ rfl rfl hl.1 rfl (lv_room (Nat.le_of_ble_eq_true rfl)) dLi_differentIn_4 ⟨Nat.le_of_ble_eq_true rfl, Nat.le_of_ble_eq_true rfl⟩) (fun r u H locs hw hP hD hS => ?_)
  obtain ⟨rfl, -⟩ := hw
  have hP : va_P D vwCl [(qb, .inr (0, [.ref qo, .int (nI bc)])), (qo, .inl (cB, 10242, .inl o))] H := hP
  have hD : va_D A [(qb, .inr (0, [.ref qo, .int (nI bc)])), (qo, .inl (cB, 10242, .inl o))] := hD
  refine lv_l2i hx hb dLi_differentIn_7 rfl ?_
  refine tp_i (show ((lN d).toInt32) = (nI d) from lN_i _) ?_
  exact hret (nI d) () _ _ _ _ _ _ ⟨rfl, trivial⟩ (hP.sub [0, 1] rfl) (hD.sub [0, 1] (by decide) rfl) hS (Nat.le_of_ble_eq_true rfl) (Nat.le_of_ble_eq_true rfl) dLi_differentIn_8

set_option maxHeartbeats 4000000 in
set_option maxRecDepth 100000 in
theorem c_liT (l : Launch) (D : va_G) (cJ cB cI cF : ClassId) (qb : Nat) (qo : Nat) (bc : Nat) (o : Nat → Int32) (B : Nat → Bool) (k : Nat) (vv : Int64) (sz : Nat) (hc : oB o bc B) (hbm : bc ≤ 81936) (hb0 : 16 + 64 * k + 64 ≤ bc) (hf : fld B (16 + 64 * k) 64 vv) : Met l yLi_listedAt (Cond.code yLi_listedAt cLi_listedAt 2 (some .long) :: wsG) ({ frames := 2, cells := 0, slots := 0, locals := 51 }) (va_Pc [.ref qb, .int (nI k)] (cfPre D (cfT cJ cB cI cF) [(qb, .inr (0, [.ref qo, .int (nI bc)])), (qo, .inl (cB, 10242, .inl o))] sz)) (va_Ql (fun (r : Int64) (u : Unit) => r = vv ∧ True) (fun u t => cfPost D ((fun (u : Unit) => [(qb, .inr (0, [.ref qo, .int (nI bc)])), (qo, .inl (cB, 10242, .inl o))]) u) (va_A [(qb, .inr (0, [.ref qo, .int (nI bc)])), (qo, .inl (cB, 10242, .inl o))] sz) t) (va_A [(qb, .inr (0, [.ref qo, .int (nI bc)])), (qo, .inl (cB, 10242, .inl o))] sz)) 0 0 (va_A [(qb, .inr (0, [.ref qo, .int (nI bc)])), (qo, .inl (cB, 10242, .inl o))] sz) := by
  refine met_l (cc := cLi_listedAt) (maxL := 2) (S := Unit) (D := D) (wO := fun (u : Unit) => [(qb, .inr (0, [.ref qo, .int (nI bc)])), (qo, .inl (cB, 10242, .inl o))]) (by decide) (Nat.le_of_ble_eq_true rfl) ?_
  intro p e s m below meth c hx hb hml hown hts hlocks hin hWd A hA hsz hP hK hD hS Q hret ls hl
  have hown : s.vm.findClass "ColumnForms$Listed" = some m.cls := hown
  have hl : lv_has ls 2 [(0, .ref qb), (1, .int (nI k))] := hl
  have hP : va_P D vwCl [(qb, .inr (0, [.ref qo, .int (nI bc)])), (qo, .inl (cB, 10242, .inl o))] s.heap := hP
  refine lv_aload_n hx hb dLi_listedAt_0 rfl (lv_at hl 0 rfl) ?_
  refine lv_bipush (v := nI 16) hx hb dLi_listedAt_1 (by decide) ?_
  refine lv_bipush (v := nI 64) hx hb dLi_listedAt_3 (by decide) ?_
  refine lv_iload_n hx hb dLi_listedAt_5 rfl (lv_at hl 1 rfl) ?_
  refine lv_imul hx hb dLi_listedAt_6 ?_
  refine tp_i (show ((nI 64) * (nI k)) = (nI (64 * k)) from pk_mul _ _) ?_
  refine lv_iadd hx hb dLi_listedAt_7 ?_
  refine tp_i (show ((nI 16) + (nI (64 * k))) = (nI (16 + (64 * k))) from nI_add _ _) ?_
  refine lv_bipush (v := nI 64) hx hb dLi_listedAt_8 (by decide) ?_
  refine kc_l (wc := [(qb, .inr (0, [.ref qo, .int (nI bc)])), (qo, .inl (cB, 10242, .inl o))]) (wr := []) hP hD hS hA [0, 1] [] rfl rfl (by decide) (by decide) (by decide) (fun hPc hDc => va_runV (As := [.int (nI (16 + (64 * k))), .int (nI 64)]) (rest := []) ⟨hx, hb, hml, hown, hts⟩ (c_bitsAt l D cJ cB cI cF qb qo bc o B (16 + (64 * k)) 64 vv _ (hc) (hbm) (by omega) (by omega) (hf) (bL_64)) (cwV 2 hts (wsG_k tw_464 (wsG_k tw_465 (wsG_k tw_466 (wsG_k tw_3 (wsG_c tw_467))))) rfl rfl rfl (by decide +kernel) ⟨Nat.le_of_ble_eq_true rfl, Nat.le_of_ble_eq_true rfl⟩) ⟨cf_blind, va_recv hK hPc (ci := 0) (q0 := 0) rfl rfl, cf_pre hPc hK hDc hWd⟩ rfl rfl hl.1 rfl (lv_room (Nat.le_of_ble_eq_true rfl)) dLi_listedAt_10 ⟨Nat.le_of_ble_eq_true rfl, Nat.le_of_ble_eq_true rfl⟩) (fun r u H locs hw hP hD hS => ?_)
  obtain ⟨hrv, -⟩ := hw
  rw [hrv]
  have hP : va_P D vwCl [(qb, .inr (0, [.ref qo, .int (nI bc)])), (qo, .inl (cB, 10242, .inl o))] H := hP
  have hD : va_D A [(qb, .inr (0, [.ref qo, .int (nI bc)])), (qo, .inl (cB, 10242, .inl o))] := hD
  exact hret vv () _ _ _ _ _ _ ⟨rfl, trivial⟩ (hP.sub [0, 1] rfl) (hD.sub [0, 1] (by decide) rfl) hS (Nat.le_of_ble_eq_true rfl) (Nat.le_of_ble_eq_true rfl) dLi_listedAt_13

set_option maxHeartbeats 4000000 in
set_option maxRecDepth 100000 in
theorem c_liL (l : Launch) (D : va_G) (cJ cB cI cF : ClassId) (qf : Nat) (qt : Nat) (qr : Nat) (n : Nat) (d : Nat) (rn : Nat) (lo : Int64) (hi : Int64) (sl : Int64) (sh : Int64) (qc : Nat) (qs : Nat) (xs : Nat → Int64) (rs : Nat → Int64) (qb : Nat) (qo : Nat) (o : Nat → Int32) (sz : Nat) (hR : rAll xs n d rn lo hi sl sh rs) (hn0 : 0 < n) : Met l yLi_lay (Cond.code yLi_lay cLi_lay 5 none :: wsG) ({ frames := 3, cells := 0, slots := 0, locals := 64 }) (va_Pc [.ref qf, .ref qr, .ref qb] (cfPre D (cfT cJ cB cI cF) [(qf, .inr (1, [.ref qt])), (qr, .inr (5, [.int (nI n), .int (nI d), .int (nI rn), .long lo, .long hi, .long sl, .long sh, .ref qc, .ref qs])), (qc, .inl (cJ, 1024, .inr (.inl xs))), (qs, .inl (cJ, 1024, .inr (.inl rs))), (qb, .inr (0, [.ref qo, .int (nI 0)])), (qo, .inl (cB, 10242, .inl o))] sz)) (va_Qv (fun (u : Nat × (Nat → Int32) × (Nat → Bool)) => (oB u.2.1 u.1 u.2.2) ∧ (lL xs n u.1 u.2.2) ∧ (u.1 ≤ 81936) ∧ True) (fun u t => cfPost D ((fun (u : Nat × (Nat → Int32) × (Nat → Bool)) => [(qf, .inr (1, [.ref qt])), (qr, .inr (5, [.int (nI n), .int (nI d), .int (nI rn), .long lo, .long hi, .long sl, .long sh, .ref qc, .ref qs])), (qc, .inl (cJ, 1024, .inr (.inl xs))), (qs, .inl (cJ, 1024, .inr (.inl rs))), (qb, .inr (0, [.ref qo, .int (nI u.1)])), (qo, .inl (cB, 10242, .inl u.2.1))]) u) (va_A [(qf, .inr (1, [.ref qt])), (qr, .inr (5, [.int (nI n), .int (nI d), .int (nI rn), .long lo, .long hi, .long sl, .long sh, .ref qc, .ref qs])), (qc, .inl (cJ, 1024, .inr (.inl xs))), (qs, .inl (cJ, 1024, .inr (.inl rs))), (qb, .inr (0, [.ref qo, .int (nI 0)])), (qo, .inl (cB, 10242, .inl o))] sz) t) (va_A [(qf, .inr (1, [.ref qt])), (qr, .inr (5, [.int (nI n), .int (nI d), .int (nI rn), .long lo, .long hi, .long sl, .long sh, .ref qc, .ref qs])), (qc, .inl (cJ, 1024, .inr (.inl xs))), (qs, .inl (cJ, 1024, .inr (.inl rs))), (qb, .inr (0, [.ref qo, .int (nI 0)])), (qo, .inl (cB, 10242, .inl o))] sz)) 0 0 (va_A [(qf, .inr (1, [.ref qt])), (qr, .inr (5, [.int (nI n), .int (nI d), .int (nI rn), .long lo, .long hi, .long sl, .long sh, .ref qc, .ref qs])), (qc, .inl (cJ, 1024, .inr (.inl xs))), (qs, .inl (cJ, 1024, .inr (.inl rs))), (qb, .inr (0, [.ref qo, .int (nI 0)])), (qo, .inl (cB, 10242, .inl o))] sz) := by
  refine met_v (cc := cLi_lay) (maxL := 5) (S := Nat × (Nat → Int32) × (Nat → Bool)) (D := D) (wO := fun (u : Nat × (Nat → Int32) × (Nat → Bool)) => [(qf, .inr (1, [.ref qt])), (qr, .inr (5, [.int (nI n), .int (nI d), .int (nI rn), .long lo, .long hi, .long sl, .long sh, .ref qc, .ref qs])), (qc, .inl (cJ, 1024, .inr (.inl xs))), (qs, .inl (cJ, 1024, .inr (.inl rs))), (qb, .inr (0, [.ref qo, .int (nI u.1)])), (qo, .inl (cB, 10242, .inl u.2.1))]) (by decide) (Nat.le_of_ble_eq_true rfl) ?_
  intro p e s m below meth c hx hb hml hown hts hlocks hin hWd A hA hsz hP hK hD hS Q hret ls hl
  have hown : s.vm.findClass "ColumnForms$Listed" = some m.cls := hown
  have hl : lv_has ls 5 [(0, .ref qf), (1, .ref qr), (2, .ref qb)] := hl
  have hP : va_P D vwCl [(qf, .inr (1, [.ref qt])), (qr, .inr (5, [.int (nI n), .int (nI d), .int (nI rn), .long lo, .long hi, .long sl, .long sh, .ref qc, .ref qs])), (qc, .inl (cJ, 1024, .inr (.inl xs))), (qs, .inl (cJ, 1024, .inr (.inl rs))), (qb, .inr (0, [.ref qo, .int (nI 0)])), (qo, .inl (cB, 10242, .inl o))] s.heap := hP
  have hn := hR.1
  have hI := hR.2.1
  have hd1 := hI.2.1
  have hd0 := hI.2.2.2.2 hn0
  obtain ⟨pl, hpl⟩ : ∃ pl : Nat → Nat, ∀ i, rPl rs d (xs i) (pl i) := ⟨fun i => (rPl_ex (xs i) hI.1).choose, fun i => (rPl_ex (xs i) hI.1).choose_spec⟩
  refine lv_aload_n hx hb dLi_lay_0 rfl (lv_at hl 2 rfl) ?_
  refine lv_aload_n hx hb dLi_lay_1 rfl (lv_at hl 1 rfl) ?_
  refine va_get (D := D) (ci := 5) (v := .int (nI d)) (C := "ColumnForms$Row") (T := TRo) (N := 9) hx hb hts inRo hown hK hP 1 rfl rfl 1 (by decide) (hts _ tw_43) (fun _ h9 => h9) rfl dLi_lay_2 ?_
  refine lv_i2l hx hb dLi_lay_5 rfl ?_
  refine tp_l (show ((nI d).toInt64) = (lN d) from nI_l (by omega)) ?_
  refine lv_bipush (v := nI 16) hx hb dLi_lay_6 (by decide) ?_
  refine kc_v (wc := [(qb, .inr (0, [.ref qo, .int (nI 0)])), (qo, .inl (cB, 10242, .inl o))]) (wr := [(qf, .inr (1, [.ref qt])), (qr, .inr (5, [.int (nI n), .int (nI d), .int (nI rn), .long lo, .long hi, .long sl, .long sh, .ref qc, .ref qs])), (qc, .inl (cJ, 1024, .inr (.inl xs))), (qs, .inl (cJ, 1024, .inr (.inl rs)))]) hP hD hS hA [4, 5] [0, 1, 2, 3] rfl rfl (by decide) (by decide) (by decide) (fun hPc hDc => va_runV (As := [.long (lN d), .int (nI 16)]) (rest := []) ⟨hx, hb, hml, hown, hts⟩ (c_append l D cJ cB cI cF qb qo 0 o (fun _ => false) (lN d) 16 _ (oB_0 o _) (by omega) (by omega)) (cwV 2 hts (wsG_k tw_394 (wsG_k tw_395 (wsG_k tw_396 (wsG_k tw_3 (wsG_c tw_397))))) rfl rfl rfl (by decide +kernel) ⟨Nat.le_of_ble_eq_true rfl, Nat.le_of_ble_eq_true rfl⟩) ⟨cf_blind, va_recv hK hPc (ci := 0) (q0 := 0) rfl rfl, cf_pre hPc hK hDc hWd⟩ rfl rfl hl.1 rfl (lv_room (Nat.le_of_ble_eq_true rfl)) dLi_lay_8 ⟨Nat.le_of_ble_eq_true rfl, Nat.le_of_ble_eq_true rfl⟩) (fun u H locs hw hP hD hS => ?_)
  obtain ⟨o2_1, rfl⟩ : ∃ z, z = u := ⟨u, rfl⟩
  obtain ⟨e1, -⟩ := hw
  have e1 : oB o2_1 (0 + 16) (bA (fun _ => false) 0 (lN d) 16) := e1
  have hP : va_P D vwCl [(qf, .inr (1, [.ref qt])), (qr, .inr (5, [.int (nI n), .int (nI d), .int (nI rn), .long lo, .long hi, .long sl, .long sh, .ref qc, .ref qs])), (qc, .inl (cJ, 1024, .inr (.inl xs))), (qs, .inl (cJ, 1024, .inr (.inl rs))), (qb, .inr (0, [.ref qo, .int (nI (0 + 16))])), (qo, .inl (cB, 10242, .inl o2_1))] H := hP
  have hD : va_D A [(qf, .inr (1, [.ref qt])), (qr, .inr (5, [.int (nI n), .int (nI d), .int (nI rn), .long lo, .long hi, .long sl, .long sh, .ref qc, .ref qs])), (qc, .inl (cJ, 1024, .inr (.inl xs))), (qs, .inl (cJ, 1024, .inr (.inl rs))), (qb, .inr (0, [.ref qo, .int (nI (0 + 16))])), (qo, .inl (cB, 10242, .inl o2_1))] := hD
  refine lv_iconst (v := nI 0) hx hb dLi_lay_11 (by decide) ?_
  refine lv_istore_n (lv' := [(3, .int (nI 0)), (0, .ref qf), (1, .ref qr), (2, .ref qb)]) hx hb dLi_lay_12 rfl hl (by decide) rfl (fun ls hl => ?_)
  have lp1 : ∀ (k_lp1 : Nat) (k : Nat) (bq : Nat) (o1 : Nat → Int32) (B1 : Nat → Bool), (k ≤ d) → (bq = 16 + 64 * k) → (oB o1 bq B1) → (fld B1 0 16 (lN d)) → (∀ j, j < k → fld B1 (16 + 64 * j) 64 (rs j)) → (d - k < k_lp1) → ∀ (H : Heap) (locs : List Loc) (ls : Array Slot), va_P D vwCl [(qf, .inr (1, [.ref qt])), (qr, .inr (5, [.int (nI n), .int (nI d), .int (nI rn), .long lo, .long hi, .long sl, .long sh, .ref qc, .ref qs])), (qc, .inl (cJ, 1024, .inr (.inl xs))), (qs, .inl (cJ, 1024, .inr (.inl rs))), (qb, .inr (0, [.ref qo, .int (nI bq)])), (qo, .inl (cB, 10242, .inl o1))] H → va_D A [(qf, .inr (1, [.ref qt])), (qr, .inr (5, [.int (nI n), .int (nI d), .int (nI rn), .long lo, .long hi, .long sl, .long sh, .ref qc, .ref qs])), (qc, .inl (cJ, 1024, .inr (.inl xs))), (qs, .inl (cJ, 1024, .inr (.inl rs))), (qb, .inr (0, [.ref qo, .int (nI bq)])), (qo, .inl (cB, 10242, .inl o1))] → va_S A s.heap H locs → lv_has ls 5 [(0, .ref qf), (1, .ref qr), (2, .ref qb), (3, .int (nI k))] → W p l e ({ frames := 3, cells := 0, slots := 0, locals := 64 }) s m ([.ref qf, .ref qr, .ref qb].toArray) below meth c H locs (0) (0) Q (F0 m 13 ls []) := by
    intro k_lp1
    induction k_lp1 with
    | zero => intro k bq o1 B1 g1 g2 g3 g4 g5 hfu; exact absurd hfu (by omega)
    | succ k_lp1 ih_lp1 =>
      intro k bq o1 B1 g1 g2 g3 g4 g5 hfu H locs ls hP hD hS hl
      refine lv_iload_n hx hb dLi_lay_13 rfl (lv_at hl 3 rfl) ?_
      refine lv_aload_n hx hb dLi_lay_14 rfl (lv_at hl 1 rfl) ?_
      refine va_get (D := D) (ci := 5) (v := .int (nI d)) (C := "ColumnForms$Row") (T := TRo) (N := 9) hx hb hts inRo hown hK hP 1 rfl rfl 1 (by decide) (hts _ tw_43) (fun _ h9 => h9) rfl dLi_lay_15 ?_
      refine lv_icmp_ge (tgt := 38) hx hb dLi_lay_18 (by decide) (fun c18 => ?_) (fun c18 => ?_)
      · have c18 : d ≤ k := (nI_leI (by omega) (by omega)).mp c18
        refine lv_aload_n hx hb dLi_lay_38 rfl (lv_at hl 1 rfl) ?_
        refine va_get (D := D) (ci := 5) (v := .int (nI d)) (C := "ColumnForms$Row") (T := TRo) (N := 9) hx hb hts inRo hown hK hP 1 rfl rfl 1 (by decide) (hts _ tw_43) (fun _ h9 => h9) rfl dLi_lay_39 ?_
        refine lv_iconst (v := nI 1) hx hb dLi_lay_42 (by decide) ?_
        refine lv_isub hx hb dLi_lay_43 ?_
        refine tp_i (show ((nI d) - (nI 1)) = (nI (d - 1)) from pk_sub (by omega)) ?_
        refine lv_i2l hx hb dLi_lay_44 rfl ?_
        refine tp_l (show ((nI (d - 1)).toInt64) = (lN (d - 1)) from nI_l (by omega)) ?_
        refine kc_i (wc := []) (wr := [(qf, .inr (1, [.ref qt])), (qr, .inr (5, [.int (nI n), .int (nI d), .int (nI rn), .long lo, .long hi, .long sl, .long sh, .ref qc, .ref qs])), (qc, .inl (cJ, 1024, .inr (.inl xs))), (qs, .inl (cJ, 1024, .inr (.inl rs))), (qb, .inr (0, [.ref qo, .int (nI bq)])), (qo, .inl (cB, 10242, .inl o1))]) hP hD hS hA [] [0, 1, 2, 3, 4, 5] rfl rfl (by decide) (by decide) (by decide) (fun hPc hDc => va_runSN (As := [.long (lN (d - 1))]) (rest := []) ⟨hx, hb, hml, hown, hts⟩ (c_bits l D cJ cB cI cF (lN (d - 1)) _) (⟨va_cnB 1 hts (wsG_c tw_337) rfl rfl rfl (hWd.nest 13 rfl) (hts _ tw_1) (by decide +kernel) ⟨Nat.le_of_ble_eq_true rfl, Nat.le_of_ble_eq_true rfl⟩, hts _ tw_336, trivial⟩) ⟨cf_blind, cf_pre hPc hK hDc hWd⟩ rfl rfl hl.1 rfl (lv_room (Nat.le_of_ble_eq_true rfl)) dLi_lay_45 ⟨Nat.le_of_ble_eq_true rfl, Nat.le_of_ble_eq_true rfl⟩) (fun r u H locs hw hP hD hS => ?_)
        obtain ⟨rfl, -⟩ := hw
        have hP : va_P D vwCl [(qf, .inr (1, [.ref qt])), (qr, .inr (5, [.int (nI n), .int (nI d), .int (nI rn), .long lo, .long hi, .long sl, .long sh, .ref qc, .ref qs])), (qc, .inl (cJ, 1024, .inr (.inl xs))), (qs, .inl (cJ, 1024, .inr (.inl rs))), (qb, .inr (0, [.ref qo, .int (nI bq)])), (qo, .inl (cB, 10242, .inl o1))] H := hP
        have hD : va_D A [(qf, .inr (1, [.ref qt])), (qr, .inr (5, [.int (nI n), .int (nI d), .int (nI rn), .long lo, .long hi, .long sl, .long sh, .ref qc, .ref qs])), (qc, .inl (cJ, 1024, .inr (.inl xs))), (qs, .inl (cJ, 1024, .inr (.inl rs))), (qb, .inr (0, [.ref qo, .int (nI bq)])), (qo, .inl (cB, 10242, .inl o1))] := hD
        refine tp_i (show (nI (bln (uN (lN (d - 1))))) = (nI (bln (d - 1))) from congrArg (fun z => nI (bln z)) (uN_lN (by omega))) ?_
        obtain ⟨wd, hwd⟩ : ∃ z, z = bln (d - 1) := ⟨_, rfl⟩
        have hw1 : wd ≤ 10 := by rw [hwd]; exact bln_d (by omega)
        refine tp_i (show (nI (bln (d - 1))) = (nI wd) from congrArg nI hwd.symm) ?_
        refine lv_istore_n (lv' := [(3, .int (nI wd)), (0, .ref qf), (1, .ref qr), (2, .ref qb)]) hx hb dLi_lay_48 rfl hl (by decide) rfl (fun ls hl => ?_)
        refine lv_iconst (v := nI 0) hx hb dLi_lay_49 (by decide) ?_
        refine lv_istore (lv' := [(4, .int (nI 0)), (3, .int (nI wd)), (0, .ref qf), (1, .ref qr), (2, .ref qb)]) hx hb dLi_lay_50 hl (by decide) rfl (fun ls hl => ?_)
        have lp2 : ∀ (k_lp2 : Nat) (i : Nat) (b2 : Nat) (o3 : Nat → Int32) (B3 : Nat → Bool), (i ≤ n) → (b2 = 16 + 64 * d + i * wd) → (oB o3 b2 B3) → (fld B3 0 16 (lN d)) → (∀ j, j < d → fld B3 (16 + 64 * j) 64 (rs j)) → (∀ j, j < i → fld B3 (16 + 64 * d + j * wd) wd (lN (pl j))) → (n - i < k_lp2) → ∀ (H : Heap) (locs : List Loc) (ls : Array Slot), va_P D vwCl [(qf, .inr (1, [.ref qt])), (qr, .inr (5, [.int (nI n), .int (nI d), .int (nI rn), .long lo, .long hi, .long sl, .long sh, .ref qc, .ref qs])), (qc, .inl (cJ, 1024, .inr (.inl xs))), (qs, .inl (cJ, 1024, .inr (.inl rs))), (qb, .inr (0, [.ref qo, .int (nI b2)])), (qo, .inl (cB, 10242, .inl o3))] H → va_D A [(qf, .inr (1, [.ref qt])), (qr, .inr (5, [.int (nI n), .int (nI d), .int (nI rn), .long lo, .long hi, .long sl, .long sh, .ref qc, .ref qs])), (qc, .inl (cJ, 1024, .inr (.inl xs))), (qs, .inl (cJ, 1024, .inr (.inl rs))), (qb, .inr (0, [.ref qo, .int (nI b2)])), (qo, .inl (cB, 10242, .inl o3))] → va_S A s.heap H locs → lv_has ls 5 [(0, .ref qf), (1, .ref qr), (2, .ref qb), (3, .int (nI wd)), (4, .int (nI i))] → W p l e ({ frames := 3, cells := 0, slots := 0, locals := 64 }) s m ([.ref qf, .ref qr, .ref qb].toArray) below meth c H locs (0) (0) Q (F0 m 52 ls []) := by
          intro k_lp2
          induction k_lp2 with
          | zero => intro i b2 o3 B3 j1 j2 j3 j4 j5 j6 hfu; exact absurd hfu (by omega)
          | succ k_lp2 ih_lp2 =>
            intro i b2 o3 B3 j1 j2 j3 j4 j5 j6 hfu H locs ls hP hD hS hl
            have hm : i * wd ≤ 1024 * 10 := Nat.mul_le_mul (by omega) hw1
            have hp1 := (hpl i).1
            refine lv_iload hx hb dLi_lay_52 (lv_at hl 4 rfl) ?_
            refine lv_aload_n hx hb dLi_lay_54 rfl (lv_at hl 1 rfl) ?_
            refine va_get (D := D) (ci := 5) (v := .int (nI n)) (C := "ColumnForms$Row") (T := TRo) (N := 9) hx hb hts inRo hown hK hP 1 rfl rfl 0 (by decide) (hts _ tw_41) (fun _ h9 => h9) rfl dLi_lay_55 ?_
            refine lv_icmp_ge (tgt := 83) hx hb dLi_lay_58 (by decide) (fun c58 => ?_) (fun c58 => ?_)
            · have c58 : n ≤ i := (nI_leI (by omega) (by omega)).mp c58
              exact hret (b2, o3, B3) _ _ _ _ _ _ ⟨j3, by subst hwd; exact ⟨rs, d, pl, hI, fun i _ => hpl i, by have e : i = n := (by omega); rw [← e]; exact j2, j4, j5, fun j hj => j6 j (by omega)⟩, by show b2 ≤ _; omega, trivial⟩ (hP.sub [0, 1, 2, 3, 4, 5] rfl) (hD.sub [0, 1, 2, 3, 4, 5] (by decide) rfl) hS (Nat.le_of_ble_eq_true rfl) (Nat.le_of_ble_eq_true rfl) dLi_lay_83
            · have c58 : ¬ n ≤ i := fun h => c58 ((nI_leI (by omega) (by omega)).mpr h)
              refine lv_aload_n hx hb dLi_lay_61 rfl (lv_at hl 2 rfl) ?_
              refine lv_aload_n hx hb dLi_lay_62 rfl (lv_at hl 1 rfl) ?_
              refine lv_aload_n hx hb dLi_lay_63 rfl (lv_at hl 1 rfl) ?_
              refine lv_iload hx hb dLi_lay_64 (lv_at hl 4 rfl) ?_
              refine kc_l (wc := [(qr, .inr (5, [.int (nI n), .int (nI d), .int (nI rn), .long lo, .long hi, .long sl, .long sh, .ref qc, .ref qs])), (qc, .inl (cJ, 1024, .inr (.inl xs)))]) (wr := [(qf, .inr (1, [.ref qt])), (qs, .inl (cJ, 1024, .inr (.inl rs))), (qb, .inr (0, [.ref qo, .int (nI b2)])), (qo, .inl (cB, 10242, .inl o3))]) hP hD hS hA [1, 2] [0, 3, 4, 5] rfl rfl (by decide) (by decide) (by decide) (fun hPc hDc => va_runV (As := [.int (nI i)]) (rest := [.ref qr, .ref qb]) ⟨hx, hb, hml, hown, hts⟩ (c_at l D cJ cB cI cF qr n d rn lo hi sl sh qc qs xs i _ (by omega) (by omega)) (cwV 1 hts (wsG_k tw_406 (wsG_k tw_257 (wsG_k tw_258 (wsG_k tw_2 (wsG_c tw_259))))) rfl rfl rfl (by decide +kernel) ⟨Nat.le_of_ble_eq_true rfl, Nat.le_of_ble_eq_true rfl⟩) ⟨cf_blind, va_recv hK hPc (ci := 5) (q0 := 0) rfl rfl, cf_pre hPc hK hDc hWd⟩ rfl rfl hl.1 rfl (lv_room (Nat.le_of_ble_eq_true rfl)) dLi_lay_66 ⟨Nat.le_of_ble_eq_true rfl, Nat.le_of_ble_eq_true rfl⟩) (fun r u H locs hw hP hD hS => ?_)
              obtain ⟨rfl, -⟩ := hw
              have hP : va_P D vwCl [(qf, .inr (1, [.ref qt])), (qs, .inl (cJ, 1024, .inr (.inl rs))), (qb, .inr (0, [.ref qo, .int (nI b2)])), (qo, .inl (cB, 10242, .inl o3)), (qr, .inr (5, [.int (nI n), .int (nI d), .int (nI rn), .long lo, .long hi, .long sl, .long sh, .ref qc, .ref qs])), (qc, .inl (cJ, 1024, .inr (.inl xs)))] H := hP
              have hD : va_D A [(qf, .inr (1, [.ref qt])), (qs, .inl (cJ, 1024, .inr (.inl rs))), (qb, .inr (0, [.ref qo, .int (nI b2)])), (qo, .inl (cB, 10242, .inl o3)), (qr, .inr (5, [.int (nI n), .int (nI d), .int (nI rn), .long lo, .long hi, .long sl, .long sh, .ref qc, .ref qs])), (qc, .inl (cJ, 1024, .inr (.inl xs)))] := hD
              refine kc_i (wc := [(qr, .inr (5, [.int (nI n), .int (nI d), .int (nI rn), .long lo, .long hi, .long sl, .long sh, .ref qc, .ref qs])), (qs, .inl (cJ, 1024, .inr (.inl rs)))]) (wr := [(qf, .inr (1, [.ref qt])), (qb, .inr (0, [.ref qo, .int (nI b2)])), (qo, .inl (cB, 10242, .inl o3)), (qc, .inl (cJ, 1024, .inr (.inl xs)))]) hP hD hS hA [4, 1] [0, 2, 3, 5] rfl rfl (by decide) (by decide) (by decide) (fun hPc hDc => va_runV (As := [.long (xs i)]) (rest := [.ref qb]) ⟨hx, hb, hml, hown, hts⟩ (c_placeOf l D cJ cB cI cF qr n d rn lo hi sl sh qc qs rs (xs i) (pl i) _ (by omega) (hpl i)) (cwV 1 hts (wsG_k tw_407 (wsG_k tw_271 (wsG_k tw_272 (wsG_k tw_2 (wsG_c tw_273))))) rfl rfl rfl (by decide +kernel) ⟨Nat.le_of_ble_eq_true rfl, Nat.le_of_ble_eq_true rfl⟩) ⟨cf_blind, va_recv hK hPc (ci := 5) (q0 := 0) rfl rfl, cf_pre hPc hK hDc hWd⟩ rfl rfl hl.1 rfl (lv_room (Nat.le_of_ble_eq_true rfl)) dLi_lay_69 ⟨Nat.le_of_ble_eq_true rfl, Nat.le_of_ble_eq_true rfl⟩) (fun r u H locs hw hP hD hS => ?_)
              obtain ⟨rfl, -⟩ := hw
              have hP : va_P D vwCl [(qf, .inr (1, [.ref qt])), (qb, .inr (0, [.ref qo, .int (nI b2)])), (qo, .inl (cB, 10242, .inl o3)), (qc, .inl (cJ, 1024, .inr (.inl xs))), (qr, .inr (5, [.int (nI n), .int (nI d), .int (nI rn), .long lo, .long hi, .long sl, .long sh, .ref qc, .ref qs])), (qs, .inl (cJ, 1024, .inr (.inl rs)))] H := hP
              have hD : va_D A [(qf, .inr (1, [.ref qt])), (qb, .inr (0, [.ref qo, .int (nI b2)])), (qo, .inl (cB, 10242, .inl o3)), (qc, .inl (cJ, 1024, .inr (.inl xs))), (qr, .inr (5, [.int (nI n), .int (nI d), .int (nI rn), .long lo, .long hi, .long sl, .long sh, .ref qc, .ref qs])), (qs, .inl (cJ, 1024, .inr (.inl rs)))] := hD
              refine lv_i2l hx hb dLi_lay_72 rfl ?_
              refine tp_l (show ((nI (pl i)).toInt64) = (lN (pl i)) from nI_l (by omega)) ?_
              refine lv_iload_n hx hb dLi_lay_73 rfl (lv_at hl 3 rfl) ?_
              refine kc_v (wc := [(qb, .inr (0, [.ref qo, .int (nI b2)])), (qo, .inl (cB, 10242, .inl o3))]) (wr := [(qf, .inr (1, [.ref qt])), (qc, .inl (cJ, 1024, .inr (.inl xs))), (qr, .inr (5, [.int (nI n), .int (nI d), .int (nI rn), .long lo, .long hi, .long sl, .long sh, .ref qc, .ref qs])), (qs, .inl (cJ, 1024, .inr (.inl rs)))]) hP hD hS hA [1, 2] [0, 3, 4, 5] rfl rfl (by decide) (by decide) (by decide) (fun hPc hDc => va_runV (As := [.long (lN (pl i)), .int (nI wd)]) (rest := []) ⟨hx, hb, hml, hown, hts⟩ (c_append l D cJ cB cI cF qb qo b2 o3 B3 (lN (pl i)) wd _ (j3) (by omega) (by omega)) (cwV 2 hts (wsG_k tw_394 (wsG_k tw_395 (wsG_k tw_396 (wsG_k tw_3 (wsG_c tw_397))))) rfl rfl rfl (by decide +kernel) ⟨Nat.le_of_ble_eq_true rfl, Nat.le_of_ble_eq_true rfl⟩) ⟨cf_blind, va_recv hK hPc (ci := 0) (q0 := 0) rfl rfl, cf_pre hPc hK hDc hWd⟩ rfl rfl hl.1 rfl (lv_room (Nat.le_of_ble_eq_true rfl)) dLi_lay_74 ⟨Nat.le_of_ble_eq_true rfl, Nat.le_of_ble_eq_true rfl⟩) (fun u H locs hw hP hD hS => ?_)
              obtain ⟨o2_2, rfl⟩ : ∃ z, z = u := ⟨u, rfl⟩
              obtain ⟨f9, -⟩ := hw
              have f9 : oB o2_2 (b2 + wd) (bA B3 b2 (lN (pl i)) wd) := f9
              have hP : va_P D vwCl [(qf, .inr (1, [.ref qt])), (qc, .inl (cJ, 1024, .inr (.inl xs))), (qr, .inr (5, [.int (nI n), .int (nI d), .int (nI rn), .long lo, .long hi, .long sl, .long sh, .ref qc, .ref qs])), (qs, .inl (cJ, 1024, .inr (.inl rs))), (qb, .inr (0, [.ref qo, .int (nI (b2 + wd))])), (qo, .inl (cB, 10242, .inl o2_2))] H := hP
              have hD : va_D A [(qf, .inr (1, [.ref qt])), (qc, .inl (cJ, 1024, .inr (.inl xs))), (qr, .inr (5, [.int (nI n), .int (nI d), .int (nI rn), .long lo, .long hi, .long sl, .long sh, .ref qc, .ref qs])), (qs, .inl (cJ, 1024, .inr (.inl rs))), (qb, .inr (0, [.ref qo, .int (nI (b2 + wd))])), (qo, .inl (cB, 10242, .inl o2_2))] := hD
              refine lv_iinc (v := nI (i + 1)) (lv' := [(4, .int (nI (i + 1))), (0, .ref qf), (1, .ref qr), (2, .ref qb), (3, .int (nI wd))]) hx hb dLi_lay_77 hl (k := 4) rfl (by rw [show (Int32.ofInt 1) = nI 1 from by decide]; exact nI_add _ _) (by decide) rfl (fun ls hl => ?_)
              refine lv_goto (tgt := 52) hx hb dLi_lay_80 (by decide) ?_
              exact ih_lp2 (i + 1) (b2 + wd) o2_2 (bA B3 b2 (lN (pl i)) wd) (by omega) (by rw [Nat.succ_mul i wd]; omega) (f9) (fld_keep j4 (by omega)) (fld_all (a := fun j => 16 + 64 * j) (wd := fun _ => 64) (vl := rs) j5 (fun j hj => by show 16 + 64 * j + 64 ≤ b2; omega)) (fld_add (a := fun j => 16 + 64 * d + j * wd) (wd := fun _ => wd) (vl := fun j => lN (pl j)) j6 (fun j hj => by have := mul_lo (w := wd) hj; show 16 + 64 * d + j * wd + wd ≤ b2; omega) (by show 16 + 64 * d + i * wd = b2; omega) rfl rfl) (by omega) _ _ _ (hP.sub [0, 2, 1, 3, 4, 5] rfl) (hD.sub [0, 2, 1, 3, 4, 5] (by decide) rfl) hS (lv_sub hl [1, 2, 3, 4, 0] rfl)
        exact lp2 (n - 0 + 1) 0 bq o1 B1 (Nat.zero_le n) (by omega) (g3) (g4) (fun j hj => g5 j (by omega)) (fun j hj => absurd hj (by omega)) (by omega) _ _ _ (hP.sub [0, 1, 2, 3, 4, 5] rfl) (hD.sub [0, 1, 2, 3, 4, 5] (by decide) rfl) hS (lv_sub hl [2, 3, 4, 1, 0] rfl)
      · have c18 : ¬ d ≤ k := fun h => c18 ((nI_leI (by omega) (by omega)).mpr h)
        refine lv_aload_n hx hb dLi_lay_21 rfl (lv_at hl 2 rfl) ?_
        refine lv_aload_n hx hb dLi_lay_22 rfl (lv_at hl 1 rfl) ?_
        refine lv_iload_n hx hb dLi_lay_23 rfl (lv_at hl 3 rfl) ?_
        refine kc_l (wc := [(qr, .inr (5, [.int (nI n), .int (nI d), .int (nI rn), .long lo, .long hi, .long sl, .long sh, .ref qc, .ref qs])), (qs, .inl (cJ, 1024, .inr (.inl rs)))]) (wr := [(qf, .inr (1, [.ref qt])), (qc, .inl (cJ, 1024, .inr (.inl xs))), (qb, .inr (0, [.ref qo, .int (nI bq)])), (qo, .inl (cB, 10242, .inl o1))]) hP hD hS hA [1, 3] [0, 2, 4, 5] rfl rfl (by decide) (by decide) (by decide) (fun hPc hDc => va_runV (As := [.int (nI k)]) (rest := [.ref qb]) ⟨hx, hb, hml, hown, hts⟩ (c_difAt l D cJ cB cI cF qr n d rn lo hi sl sh qc qs rs k _ (by omega) (by omega)) (cwV 1 hts (wsG_k tw_405 (wsG_k tw_275 (wsG_k tw_276 (wsG_k tw_2 (wsG_c tw_277))))) rfl rfl rfl (by decide +kernel) ⟨Nat.le_of_ble_eq_true rfl, Nat.le_of_ble_eq_true rfl⟩) ⟨cf_blind, va_recv hK hPc (ci := 5) (q0 := 0) rfl rfl, cf_pre hPc hK hDc hWd⟩ rfl rfl hl.1 rfl (lv_room (Nat.le_of_ble_eq_true rfl)) dLi_lay_24 ⟨Nat.le_of_ble_eq_true rfl, Nat.le_of_ble_eq_true rfl⟩) (fun r u H locs hw hP hD hS => ?_)
        obtain ⟨rfl, -⟩ := hw
        have hP : va_P D vwCl [(qf, .inr (1, [.ref qt])), (qc, .inl (cJ, 1024, .inr (.inl xs))), (qb, .inr (0, [.ref qo, .int (nI bq)])), (qo, .inl (cB, 10242, .inl o1)), (qr, .inr (5, [.int (nI n), .int (nI d), .int (nI rn), .long lo, .long hi, .long sl, .long sh, .ref qc, .ref qs])), (qs, .inl (cJ, 1024, .inr (.inl rs)))] H := hP
        have hD : va_D A [(qf, .inr (1, [.ref qt])), (qc, .inl (cJ, 1024, .inr (.inl xs))), (qb, .inr (0, [.ref qo, .int (nI bq)])), (qo, .inl (cB, 10242, .inl o1)), (qr, .inr (5, [.int (nI n), .int (nI d), .int (nI rn), .long lo, .long hi, .long sl, .long sh, .ref qc, .ref qs])), (qs, .inl (cJ, 1024, .inr (.inl rs)))] := hD
        refine lv_bipush (v := nI 64) hx hb dLi_lay_27 (by decide) ?_
        refine kc_v (wc := [(qb, .inr (0, [.ref qo, .int (nI bq)])), (qo, .inl (cB, 10242, .inl o1))]) (wr := [(qf, .inr (1, [.ref qt])), (qc, .inl (cJ, 1024, .inr (.inl xs))), (qr, .inr (5, [.int (nI n), .int (nI d), .int (nI rn), .long lo, .long hi, .long sl, .long sh, .ref qc, .ref qs])), (qs, .inl (cJ, 1024, .inr (.inl rs)))]) hP hD hS hA [2, 3] [0, 1, 4, 5] rfl rfl (by decide) (by decide) (by decide) (fun hPc hDc => va_runV (As := [.long (rs k), .int (nI 64)]) (rest := []) ⟨hx, hb, hml, hown, hts⟩ (c_append l D cJ cB cI cF qb qo bq o1 B1 (rs k) 64 _ (g3) (by omega) (by omega)) (cwV 2 hts (wsG_k tw_394 (wsG_k tw_395 (wsG_k tw_396 (wsG_k tw_3 (wsG_c tw_397))))) rfl rfl rfl (by decide +kernel) ⟨Nat.le_of_ble_eq_true rfl, Nat.le_of_ble_eq_true rfl⟩) ⟨cf_blind, va_recv hK hPc (ci := 0) (q0 := 0) rfl rfl, cf_pre hPc hK hDc hWd⟩ rfl rfl hl.1 rfl (lv_room (Nat.le_of_ble_eq_true rfl)) dLi_lay_29 ⟨Nat.le_of_ble_eq_true rfl, Nat.le_of_ble_eq_true rfl⟩) (fun u H locs hw hP hD hS => ?_)
        obtain ⟨o2_3, rfl⟩ : ∃ z, z = u := ⟨u, rfl⟩
        obtain ⟨f9, -⟩ := hw
        have f9 : oB o2_3 (bq + 64) (bA B1 bq (rs k) 64) := f9
        have hP : va_P D vwCl [(qf, .inr (1, [.ref qt])), (qc, .inl (cJ, 1024, .inr (.inl xs))), (qr, .inr (5, [.int (nI n), .int (nI d), .int (nI rn), .long lo, .long hi, .long sl, .long sh, .ref qc, .ref qs])), (qs, .inl (cJ, 1024, .inr (.inl rs))), (qb, .inr (0, [.ref qo, .int (nI (bq + 64))])), (qo, .inl (cB, 10242, .inl o2_3))] H := hP
        have hD : va_D A [(qf, .inr (1, [.ref qt])), (qc, .inl (cJ, 1024, .inr (.inl xs))), (qr, .inr (5, [.int (nI n), .int (nI d), .int (nI rn), .long lo, .long hi, .long sl, .long sh, .ref qc, .ref qs])), (qs, .inl (cJ, 1024, .inr (.inl rs))), (qb, .inr (0, [.ref qo, .int (nI (bq + 64))])), (qo, .inl (cB, 10242, .inl o2_3))] := hD
        refine lv_iinc (v := nI (k + 1)) (lv' := [(3, .int (nI (k + 1))), (0, .ref qf), (1, .ref qr), (2, .ref qb)]) hx hb dLi_lay_32 hl (k := 3) rfl (by rw [show (Int32.ofInt 1) = nI 1 from by decide]; exact nI_add _ _) (by decide) rfl (fun ls hl => ?_)
        refine lv_goto (tgt := 13) hx hb dLi_lay_35 (by decide) ?_
        exact ih_lp1 (k + 1) (bq + 64) o2_3 (bA B1 bq (rs k) 64) (by omega) (by omega) (f9) (fld_keep g4 (by omega)) (fld_add (a := fun j => 16 + 64 * j) (wd := fun _ => 64) (vl := rs) g5 (fun j hj => by show 16 + 64 * j + 64 ≤ bq; omega) (by show 16 + 64 * k = bq; omega) rfl rfl) (by omega) _ _ _ (hP.sub [0, 2, 1, 3, 4, 5] rfl) (hD.sub [0, 2, 1, 3, 4, 5] (by decide) rfl) hS (lv_sub hl [1, 2, 3, 0] rfl)
  exact lp1 (d - 0 + 1) 0 (0 + 16) o2_1 (bA (fun _ => false) 0 (lN d) 16) (Nat.zero_le d) (rfl) (e1) (bA_fld _ _ _ _) (fun j hj => absurd hj (by omega)) (by omega) _ _ _ (hP.sub [0, 1, 2, 3, 4, 5] rfl) (hD.sub [0, 1, 2, 3, 4, 5] (by decide) rfl) hS (lv_sub hl [1, 2, 3, 0] rfl)

set_option maxHeartbeats 4000000 in
set_option maxRecDepth 100000 in
theorem c_liR (l : Launch) (D : va_G) (cJ cB cI cF : ClassId) (qf : Nat) (qt : Nat) (qb : Nat) (qo : Nat) (bc : Nat) (o : Nat → Int32) (B : Nat → Bool) (xs : Nat → Int64) (n : Nat) (i : Nat) (sz : Nat) (hc : oB o bc B) (hbm : bc ≤ 81936) (hn : n ≤ 1024) (hL : lL xs n bc B) (hi1 : i < n) : Met l yLi_read (Cond.code yLi_read cLi_read 5 (some .long) :: wsG) ({ frames := 3, cells := 0, slots := 0, locals := 72 }) (va_Pc [.ref qf, .ref qb, .int (nI i)] (cfPre D (cfT cJ cB cI cF) [(qf, .inr (1, [.ref qt])), (qb, .inr (0, [.ref qo, .int (nI bc)])), (qo, .inl (cB, 10242, .inl o))] sz)) (va_Ql (fun (r : Int64) (u : Unit) => r = xs i ∧ True) (fun u t => cfPost D ((fun (u : Unit) => [(qf, .inr (1, [.ref qt])), (qb, .inr (0, [.ref qo, .int (nI bc)])), (qo, .inl (cB, 10242, .inl o))]) u) (va_A [(qf, .inr (1, [.ref qt])), (qb, .inr (0, [.ref qo, .int (nI bc)])), (qo, .inl (cB, 10242, .inl o))] sz) t) (va_A [(qf, .inr (1, [.ref qt])), (qb, .inr (0, [.ref qo, .int (nI bc)])), (qo, .inl (cB, 10242, .inl o))] sz)) 0 0 (va_A [(qf, .inr (1, [.ref qt])), (qb, .inr (0, [.ref qo, .int (nI bc)])), (qo, .inl (cB, 10242, .inl o))] sz) := by
  refine met_l (cc := cLi_read) (maxL := 5) (S := Unit) (D := D) (wO := fun (u : Unit) => [(qf, .inr (1, [.ref qt])), (qb, .inr (0, [.ref qo, .int (nI bc)])), (qo, .inl (cB, 10242, .inl o))]) (by decide) (Nat.le_of_ble_eq_true rfl) ?_
  intro p e s m below meth c hx hb hml hown hts hlocks hin hWd A hA hsz hP hK hD hS Q hret ls hl
  have hown : s.vm.findClass "ColumnForms$Listed" = some m.cls := hown
  have hl : lv_has ls 5 [(0, .ref qf), (1, .ref qb), (2, .int (nI i))] := hl
  have hP : va_P D vwCl [(qf, .inr (1, [.ref qt])), (qb, .inr (0, [.ref qo, .int (nI bc)])), (qo, .inl (cB, 10242, .inl o))] s.heap := hP
  obtain ⟨rs, d, pl, hI, hp, k1, k2, k3, k4⟩ := hL
  have hd1 := hI.2.1
  have hd0 := hI.2.2.2.2 (by omega)
  have hw1 : bln (d - 1) ≤ 10 := bln_d (by omega)
  have hm0 : n * bln (d - 1) ≤ 1024 * 10 := Nat.mul_le_mul hn hw1
  have hm := mul_lo (w := bln (d - 1)) hi1
  have hq := rPl_lt hI hi1 (hp i hi1)
  have hq1 := hq.1
  refine lv_aload_n hx hb dLi_read_0 rfl (lv_at hl 1 rfl) ?_
  refine kc_i (wc := [(qb, .inr (0, [.ref qo, .int (nI bc)])), (qo, .inl (cB, 10242, .inl o))]) (wr := [(qf, .inr (1, [.ref qt]))]) hP hD hS hA [1, 2] [0] rfl rfl (by decide) (by decide) (by decide) (fun hPc hDc => va_runS (As := [.ref qb]) (rest := []) ⟨hx, hb, hml, hown, hts⟩ (c_liD l D cJ cB cI cF qb qo bc o B d _ (hc) (hbm) (by omega) (k2) (by omega)) (va_cwS 1 hts (wsG_k tw_461 (wsG_k tw_462 (wsG_k tw_7 (wsG_c tw_463)))) rfl rfl rfl (by decide +kernel) ⟨Nat.le_of_ble_eq_true rfl, Nat.le_of_ble_eq_true rfl⟩) ⟨cf_blind, cf_pre hPc hK hDc hWd⟩ rfl rfl hl.1 rfl (lv_room (Nat.le_of_ble_eq_true rfl)) dLi_read_1 ⟨Nat.le_of_ble_eq_true rfl, Nat.le_of_ble_eq_true rfl⟩) (fun r u H locs hw hP hD hS => ?_)
  obtain ⟨rfl, -⟩ := hw
  have hP : va_P D vwCl [(qf, .inr (1, [.ref qt])), (qb, .inr (0, [.ref qo, .int (nI bc)])), (qo, .inl (cB, 10242, .inl o))] H := hP
  have hD : va_D A [(qf, .inr (1, [.ref qt])), (qb, .inr (0, [.ref qo, .int (nI bc)])), (qo, .inl (cB, 10242, .inl o))] := hD
  refine lv_istore_n (lv' := [(3, .int (nI d)), (0, .ref qf), (1, .ref qb), (2, .int (nI i))]) hx hb dLi_read_4 rfl hl (by decide) rfl (fun ls hl => ?_)
  refine lv_iload_n hx hb dLi_read_5 rfl (lv_at hl 0 rfl) ?_
  refine lv_iconst (v := nI 1) hx hb dLi_read_6 (by decide) ?_
  refine lv_isub hx hb dLi_read_7 ?_
  refine tp_i (show ((nI d) - (nI 1)) = (nI (d - 1)) from pk_sub (by omega)) ?_
  refine lv_i2l hx hb dLi_read_8 rfl ?_
  refine tp_l (show ((nI (d - 1)).toInt64) = (lN (d - 1)) from nI_l (by omega)) ?_
  refine kc_i (wc := []) (wr := [(qf, .inr (1, [.ref qt])), (qb, .inr (0, [.ref qo, .int (nI bc)])), (qo, .inl (cB, 10242, .inl o))]) hP hD hS hA [] [0, 1, 2] rfl rfl (by decide) (by decide) (by decide) (fun hPc hDc => va_runSN (As := [.long (lN (d - 1))]) (rest := []) ⟨hx, hb, hml, hown, hts⟩ (c_bits l D cJ cB cI cF (lN (d - 1)) _) (⟨va_cnB 1 hts (wsG_c tw_337) rfl rfl rfl (hWd.nest 13 rfl) (hts _ tw_1) (by decide +kernel) ⟨Nat.le_of_ble_eq_true rfl, Nat.le_of_ble_eq_true rfl⟩, hts _ tw_336, trivial⟩) ⟨cf_blind, cf_pre hPc hK hDc hWd⟩ rfl rfl hl.1 rfl (lv_room (Nat.le_of_ble_eq_true rfl)) dLi_read_9 ⟨Nat.le_of_ble_eq_true rfl, Nat.le_of_ble_eq_true rfl⟩) (fun r u H locs hw hP hD hS => ?_)
  obtain ⟨rfl, -⟩ := hw
  have hP : va_P D vwCl [(qf, .inr (1, [.ref qt])), (qb, .inr (0, [.ref qo, .int (nI bc)])), (qo, .inl (cB, 10242, .inl o))] H := hP
  have hD : va_D A [(qf, .inr (1, [.ref qt])), (qb, .inr (0, [.ref qo, .int (nI bc)])), (qo, .inl (cB, 10242, .inl o))] := hD
  refine tp_i (show (nI (bln (uN (lN (d - 1))))) = (nI (bln (d - 1))) from congrArg (fun z => nI (bln z)) (uN_lN (by omega))) ?_
  refine lv_istore (lv' := [(4, .int (nI (bln (d - 1)))), (3, .int (nI d)), (0, .ref qf), (1, .ref qb), (2, .int (nI i))]) hx hb dLi_read_12 hl (by decide) rfl (fun ls hl => ?_)
  refine lv_aload_n hx hb dLi_read_14 rfl (lv_at hl 3 rfl) ?_
  refine lv_aload_n hx hb dLi_read_15 rfl (lv_at hl 3 rfl) ?_
  refine lv_iload_n hx hb dLi_read_16 rfl (lv_at hl 1 rfl) ?_
  refine kc_i (wc := []) (wr := [(qf, .inr (1, [.ref qt])), (qb, .inr (0, [.ref qo, .int (nI bc)])), (qo, .inl (cB, 10242, .inl o))]) hP hD hS hA [] [0, 1, 2] rfl rfl (by decide) (by decide) (by decide) (fun hPc hDc => va_runS (As := [.int (nI d)]) (rest := [.ref qb, .ref qb]) ⟨hx, hb, hml, hown, hts⟩ (c_liF l D cJ cB cI cF d _) (va_cwS 1 hts (wsG_k tw_332 (wsG_k tw_333 (wsG_k tw_7 (wsG_c tw_334)))) rfl rfl rfl (by decide +kernel) ⟨Nat.le_of_ble_eq_true rfl, Nat.le_of_ble_eq_true rfl⟩) ⟨cf_blind, cf_pre hPc hK hDc hWd⟩ rfl rfl hl.1 rfl (lv_room (Nat.le_of_ble_eq_true rfl)) dLi_read_17 ⟨Nat.le_of_ble_eq_true rfl, Nat.le_of_ble_eq_true rfl⟩) (fun r u H locs hw hP hD hS => ?_)
  obtain ⟨rfl, -⟩ := hw
  have hP : va_P D vwCl [(qf, .inr (1, [.ref qt])), (qb, .inr (0, [.ref qo, .int (nI bc)])), (qo, .inl (cB, 10242, .inl o))] H := hP
  have hD : va_D A [(qf, .inr (1, [.ref qt])), (qb, .inr (0, [.ref qo, .int (nI bc)])), (qo, .inl (cB, 10242, .inl o))] := hD
  refine lv_iload_n hx hb dLi_read_20 rfl (lv_at hl 4 rfl) ?_
  refine lv_iload hx hb dLi_read_21 (lv_at hl 0 rfl) ?_
  refine lv_imul hx hb dLi_read_23 ?_
  refine tp_i (show ((nI i) * (nI (bln (d - 1)))) = (nI (i * (bln (d - 1)))) from pk_mul _ _) ?_
  refine lv_iadd hx hb dLi_read_24 ?_
  refine tp_i (show ((nI (16 + 64 * d)) + (nI (i * (bln (d - 1))))) = (nI ((16 + 64 * d) + (i * (bln (d - 1))))) from nI_add _ _) ?_
  refine lv_iload hx hb dLi_read_25 (lv_at hl 0 rfl) ?_
  refine kc_l (wc := [(qb, .inr (0, [.ref qo, .int (nI bc)])), (qo, .inl (cB, 10242, .inl o))]) (wr := [(qf, .inr (1, [.ref qt]))]) hP hD hS hA [1, 2] [0] rfl rfl (by decide) (by decide) (by decide) (fun hPc hDc => va_runV (As := [.int (nI ((16 + 64 * d) + (i * (bln (d - 1))))), .int (nI (bln (d - 1)))]) (rest := [.ref qb]) ⟨hx, hb, hml, hown, hts⟩ (c_bitsAt l D cJ cB cI cF qb qo bc o B ((16 + 64 * d) + (i * (bln (d - 1)))) (bln (d - 1)) (lN (pl i)) _ (hc) (hbm) (by omega) (by omega) (k4 i hi1) (lN_small (bln_pl hq1) (by omega))) (cwV 2 hts (wsG_k tw_464 (wsG_k tw_465 (wsG_k tw_466 (wsG_k tw_3 (wsG_c tw_467))))) rfl rfl rfl (by decide +kernel) ⟨Nat.le_of_ble_eq_true rfl, Nat.le_of_ble_eq_true rfl⟩) ⟨cf_blind, va_recv hK hPc (ci := 0) (q0 := 0) rfl rfl, cf_pre hPc hK hDc hWd⟩ rfl rfl hl.1 rfl (lv_room (Nat.le_of_ble_eq_true rfl)) dLi_read_27 ⟨Nat.le_of_ble_eq_true rfl, Nat.le_of_ble_eq_true rfl⟩) (fun r u H locs hw hP hD hS => ?_)
  obtain ⟨rfl, -⟩ := hw
  have hP : va_P D vwCl [(qf, .inr (1, [.ref qt])), (qb, .inr (0, [.ref qo, .int (nI bc)])), (qo, .inl (cB, 10242, .inl o))] H := hP
  have hD : va_D A [(qf, .inr (1, [.ref qt])), (qb, .inr (0, [.ref qo, .int (nI bc)])), (qo, .inl (cB, 10242, .inl o))] := hD
  refine lv_l2i hx hb dLi_read_30 rfl ?_
  refine tp_i (show ((lN (pl i)).toInt32) = (nI (pl i)) from lN_i _) ?_
  refine kc_l (wc := [(qb, .inr (0, [.ref qo, .int (nI bc)])), (qo, .inl (cB, 10242, .inl o))]) (wr := [(qf, .inr (1, [.ref qt]))]) hP hD hS hA [1, 2] [0] rfl rfl (by decide) (by decide) (by decide) (fun hPc hDc => va_runS (As := [.ref qb, .int (nI (pl i))]) (rest := []) ⟨hx, hb, hml, hown, hts⟩ (c_liT l D cJ cB cI cF qb qo bc o B (pl i) (rs (pl i)) _ (hc) (hbm) (by omega) (k3 _ hq1)) (va_cwS 2 hts (wsG_k tw_469 (wsG_k tw_470 (wsG_k tw_7 (wsG_c tw_471)))) rfl rfl rfl (by decide +kernel) ⟨Nat.le_of_ble_eq_true rfl, Nat.le_of_ble_eq_true rfl⟩) ⟨cf_blind, cf_pre hPc hK hDc hWd⟩ rfl rfl hl.1 rfl (lv_room (Nat.le_of_ble_eq_true rfl)) dLi_read_31 ⟨Nat.le_of_ble_eq_true rfl, Nat.le_of_ble_eq_true rfl⟩) (fun r u H locs hw hP hD hS => ?_)
  obtain ⟨rfl, -⟩ := hw
  have hP : va_P D vwCl [(qf, .inr (1, [.ref qt])), (qb, .inr (0, [.ref qo, .int (nI bc)])), (qo, .inl (cB, 10242, .inl o))] H := hP
  have hD : va_D A [(qf, .inr (1, [.ref qt])), (qb, .inr (0, [.ref qo, .int (nI bc)])), (qo, .inl (cB, 10242, .inl o))] := hD
  exact hret (rs (pl i)) () _ _ _ _ _ _ ⟨hq.2, trivial⟩ (hP.sub [0, 1, 2] rfl) (hD.sub [0, 1, 2] (by decide) rfl) hS (Nat.le_of_ble_eq_true rfl) (Nat.le_of_ble_eq_true rfl) dLi_read_34

set_option maxHeartbeats 4000000 in
set_option maxRecDepth 100000 in
theorem c_liC (l : Launch) (D : va_G) (cJ cB cI cF : ClassId) (qf : Nat) (qt : Nat) (g : Nat → Int32) (qb : Nat) (qo : Nat) (bc : Nat) (o : Nat → Int32) (B : Nat → Bool) (xs : Nat → Int64) (rs : Nat → Int64) (pl : Nat → Nat) (n : Nat) (d : Nat) (sz : Nat) (hc : oB o bc B) (hbm : bc ≤ 81936) (hn : n ≤ 1024) (hd1 : d ≤ 1024) (hd0 : 0 < d) (k1 : bc = 16 + 64 * d + n * bln (d - 1)) (k4 : ∀ i, i < n → fld B (16 + 64 * d + i * bln (d - 1)) (bln (d - 1)) (lN (pl i))) (hp : ∀ i, i < n → pl i < d) : Met l yLi_countPlaces (Cond.code yLi_countPlaces cLi_countPlaces 8 none :: wsG) ({ frames := 3, cells := 0, slots := 0, locals := 64 }) (va_Pc [.ref qf, .ref qb, .int (nI n), .int (nI d)] (cfPre D (cfT cJ cB cI cF) [(qf, .inr (1, [.ref qt])), (qt, .inl (cI, 1024, .inl g)), (qb, .inr (0, [.ref qo, .int (nI bc)])), (qo, .inl (cB, 10242, .inl o))] sz)) (va_Qv (fun (u : (Nat → Int32)) => (∀ j, j < 1024 → u j = nI (nO pl n j)) ∧ True) (fun u t => cfPost D ((fun (u : (Nat → Int32)) => [(qf, .inr (1, [.ref qt])), (qt, .inl (cI, 1024, .inl u)), (qb, .inr (0, [.ref qo, .int (nI bc)])), (qo, .inl (cB, 10242, .inl o))]) u) (va_A [(qf, .inr (1, [.ref qt])), (qt, .inl (cI, 1024, .inl g)), (qb, .inr (0, [.ref qo, .int (nI bc)])), (qo, .inl (cB, 10242, .inl o))] sz) t) (va_A [(qf, .inr (1, [.ref qt])), (qt, .inl (cI, 1024, .inl g)), (qb, .inr (0, [.ref qo, .int (nI bc)])), (qo, .inl (cB, 10242, .inl o))] sz)) 0 0 (va_A [(qf, .inr (1, [.ref qt])), (qt, .inl (cI, 1024, .inl g)), (qb, .inr (0, [.ref qo, .int (nI bc)])), (qo, .inl (cB, 10242, .inl o))] sz) := by
  refine met_v (cc := cLi_countPlaces) (maxL := 8) (S := (Nat → Int32)) (D := D) (wO := fun (u : (Nat → Int32)) => [(qf, .inr (1, [.ref qt])), (qt, .inl (cI, 1024, .inl u)), (qb, .inr (0, [.ref qo, .int (nI bc)])), (qo, .inl (cB, 10242, .inl o))]) (by decide) (Nat.le_of_ble_eq_true rfl) ?_
  intro p e s m below meth c hx hb hml hown hts hlocks hin hWd A hA hsz hP hK hD hS Q hret ls hl
  have hown : s.vm.findClass "ColumnForms$Listed" = some m.cls := hown
  have hl : lv_has ls 8 [(0, .ref qf), (1, .ref qb), (2, .int (nI n)), (3, .int (nI d))] := hl
  have hP : va_P D vwCl [(qf, .inr (1, [.ref qt])), (qt, .inl (cI, 1024, .inl g)), (qb, .inr (0, [.ref qo, .int (nI bc)])), (qo, .inl (cB, 10242, .inl o))] s.heap := hP
  have hw1 : bln (d - 1) ≤ 10 := bln_d (by omega)
  have hm0 : n * bln (d - 1) ≤ 1024 * 10 := Nat.mul_le_mul hn hw1
  refine lv_aload_n hx hb dLi_countPlaces_0 rfl (lv_at hl 0 rfl) ?_
  refine va_get (D := D) (ci := 1) (v := .ref qt) (C := "ColumnForms$Listed") (T := TLi) (N := 1) hx hb hts inLi hown hK hP 0 rfl rfl 0 (by decide) (hts _ tw_116) (fun _ h9 => h9) rfl dLi_countPlaces_1 ?_
  refine lv_iconst (v := nI 0) hx hb dLi_countPlaces_4 (by decide) ?_
  refine kc_v (wc := [(qt, .inl (cI, 1024, .inl g))]) (wr := [(qf, .inr (1, [.ref qt])), (qb, .inr (0, [.ref qo, .int (nI bc)])), (qo, .inl (cB, 10242, .inl o))]) hP hD hS hA [1] [0, 2, 3] rfl rfl (by decide) (by decide) (by decide) (fun hPc hDc => va_runS (As := [.ref qt, .int (nI 0)]) (rest := []) ⟨hx, hb, hml, hown, hts⟩ (c_fill l D cJ cB cI cF qt g (nI 0) _) (va_cwS 2 hts (wsG_k tw_548 (wsG_k tw_549 (wsG_k tw_21 (wsG_c tw_550)))) rfl rfl rfl (by decide +kernel) ⟨Nat.le_of_ble_eq_true rfl, Nat.le_of_ble_eq_true rfl⟩) ⟨cf_blind, cf_pre hPc hK hDc hWd⟩ rfl rfl hl.1 rfl (lv_room (Nat.le_of_ble_eq_true rfl)) dLi_countPlaces_5 ⟨Nat.le_of_ble_eq_true rfl, Nat.le_of_ble_eq_true rfl⟩) (fun u H locs hw hP hD hS => ?_)
  obtain ⟨f2_1, rfl⟩ : ∃ z, z = u := ⟨u, rfl⟩
  obtain ⟨z1, -⟩ := hw
  have z1 : ∀ j, j < 1024 → f2_1 j = (nI 0) := z1
  have hP : va_P D vwCl [(qf, .inr (1, [.ref qt])), (qb, .inr (0, [.ref qo, .int (nI bc)])), (qo, .inl (cB, 10242, .inl o)), (qt, .inl (cI, 1024, .inl f2_1))] H := hP
  have hD : va_D A [(qf, .inr (1, [.ref qt])), (qb, .inr (0, [.ref qo, .int (nI bc)])), (qo, .inl (cB, 10242, .inl o)), (qt, .inl (cI, 1024, .inl f2_1))] := hD
  refine lv_iload_n hx hb dLi_countPlaces_8 rfl (lv_at hl 3 rfl) ?_
  refine lv_iconst (v := nI 1) hx hb dLi_countPlaces_9 (by decide) ?_
  refine lv_isub hx hb dLi_countPlaces_10 ?_
  refine tp_i (show ((nI d) - (nI 1)) = (nI (d - 1)) from pk_sub (by omega)) ?_
  refine lv_i2l hx hb dLi_countPlaces_11 rfl ?_
  refine tp_l (show ((nI (d - 1)).toInt64) = (lN (d - 1)) from nI_l (by omega)) ?_
  refine kc_i (wc := []) (wr := [(qf, .inr (1, [.ref qt])), (qb, .inr (0, [.ref qo, .int (nI bc)])), (qo, .inl (cB, 10242, .inl o)), (qt, .inl (cI, 1024, .inl f2_1))]) hP hD hS hA [] [0, 1, 2, 3] rfl rfl (by decide) (by decide) (by decide) (fun hPc hDc => va_runSN (As := [.long (lN (d - 1))]) (rest := []) ⟨hx, hb, hml, hown, hts⟩ (c_bits l D cJ cB cI cF (lN (d - 1)) _) (⟨va_cnB 1 hts (wsG_c tw_337) rfl rfl rfl (hWd.nest 13 rfl) (hts _ tw_1) (by decide +kernel) ⟨Nat.le_of_ble_eq_true rfl, Nat.le_of_ble_eq_true rfl⟩, hts _ tw_336, trivial⟩) ⟨cf_blind, cf_pre hPc hK hDc hWd⟩ rfl rfl hl.1 rfl (lv_room (Nat.le_of_ble_eq_true rfl)) dLi_countPlaces_12 ⟨Nat.le_of_ble_eq_true rfl, Nat.le_of_ble_eq_true rfl⟩) (fun r u H locs hw hP hD hS => ?_)
  obtain ⟨rfl, -⟩ := hw
  have hP : va_P D vwCl [(qf, .inr (1, [.ref qt])), (qb, .inr (0, [.ref qo, .int (nI bc)])), (qo, .inl (cB, 10242, .inl o)), (qt, .inl (cI, 1024, .inl f2_1))] H := hP
  have hD : va_D A [(qf, .inr (1, [.ref qt])), (qb, .inr (0, [.ref qo, .int (nI bc)])), (qo, .inl (cB, 10242, .inl o)), (qt, .inl (cI, 1024, .inl f2_1))] := hD
  refine tp_i (show (nI (bln (uN (lN (d - 1))))) = (nI (bln (d - 1))) from congrArg (fun z => nI (bln z)) (uN_lN (by omega))) ?_
  refine lv_istore (lv' := [(4, .int (nI (bln (d - 1)))), (0, .ref qf), (1, .ref qb), (2, .int (nI n)), (3, .int (nI d))]) hx hb dLi_countPlaces_15 hl (by decide) rfl (fun ls hl => ?_)
  refine lv_iload_n hx hb dLi_countPlaces_17 rfl (lv_at hl 4 rfl) ?_
  refine kc_i (wc := []) (wr := [(qf, .inr (1, [.ref qt])), (qb, .inr (0, [.ref qo, .int (nI bc)])), (qo, .inl (cB, 10242, .inl o)), (qt, .inl (cI, 1024, .inl f2_1))]) hP hD hS hA [] [0, 1, 2, 3] rfl rfl (by decide) (by decide) (by decide) (fun hPc hDc => va_runS (As := [.int (nI d)]) (rest := []) ⟨hx, hb, hml, hown, hts⟩ (c_liF l D cJ cB cI cF d _) (va_cwS 1 hts (wsG_k tw_332 (wsG_k tw_333 (wsG_k tw_7 (wsG_c tw_334)))) rfl rfl rfl (by decide +kernel) ⟨Nat.le_of_ble_eq_true rfl, Nat.le_of_ble_eq_true rfl⟩) ⟨cf_blind, cf_pre hPc hK hDc hWd⟩ rfl rfl hl.1 rfl (lv_room (Nat.le_of_ble_eq_true rfl)) dLi_countPlaces_18 ⟨Nat.le_of_ble_eq_true rfl, Nat.le_of_ble_eq_true rfl⟩) (fun r u H locs hw hP hD hS => ?_)
  obtain ⟨rfl, -⟩ := hw
  have hP : va_P D vwCl [(qf, .inr (1, [.ref qt])), (qb, .inr (0, [.ref qo, .int (nI bc)])), (qo, .inl (cB, 10242, .inl o)), (qt, .inl (cI, 1024, .inl f2_1))] H := hP
  have hD : va_D A [(qf, .inr (1, [.ref qt])), (qb, .inr (0, [.ref qo, .int (nI bc)])), (qo, .inl (cB, 10242, .inl o)), (qt, .inl (cI, 1024, .inl f2_1))] := hD
  refine lv_istore (lv' := [(5, .int (nI (16 + 64 * d))), (4, .int (nI (bln (d - 1)))), (0, .ref qf), (1, .ref qb), (2, .int (nI n)), (3, .int (nI d))]) hx hb dLi_countPlaces_21 hl (by decide) rfl (fun ls hl => ?_)
  refine lv_iconst (v := nI 0) hx hb dLi_countPlaces_23 (by decide) ?_
  refine lv_istore (lv' := [(6, .int (nI 0)), (5, .int (nI (16 + 64 * d))), (4, .int (nI (bln (d - 1)))), (0, .ref qf), (1, .ref qb), (2, .int (nI n)), (3, .int (nI d))]) hx hb dLi_countPlaces_24 hl (by decide) rfl (fun ls hl => ?_)
  have lp : ∀ (k_lp : Nat) (i : Nat) (g1 : Nat → Int32), (i ≤ n) → (∀ j, j < 1024 → g1 j = nI (nO pl i j)) → (n - i < k_lp) → ∀ (H : Heap) (locs : List Loc) (ls : Array Slot), va_P D vwCl [(qf, .inr (1, [.ref qt])), (qt, .inl (cI, 1024, .inl g1)), (qb, .inr (0, [.ref qo, .int (nI bc)])), (qo, .inl (cB, 10242, .inl o))] H → va_D A [(qf, .inr (1, [.ref qt])), (qt, .inl (cI, 1024, .inl g1)), (qb, .inr (0, [.ref qo, .int (nI bc)])), (qo, .inl (cB, 10242, .inl o))] → va_S A s.heap H locs → lv_has ls 8 [(0, .ref qf), (1, .ref qb), (2, .int (nI n)), (3, .int (nI d)), (4, .int (nI (bln (d - 1)))), (5, .int (nI (16 + 64 * d))), (6, .int (nI i))] → W p l e ({ frames := 3, cells := 0, slots := 0, locals := 64 }) s m ([.ref qf, .ref qb, .int (nI n), .int (nI d)].toArray) below meth c H locs (0) (0) Q (F0 m 26 ls []) := by
    intro k_lp
    induction k_lp with
    | zero => intro i g1 j1 j2 hfu; exact absurd hfu (by omega)
    | succ k_lp ih_lp =>
      intro i g1 j1 j2 hfu H locs ls hP hD hS hl
      refine lv_iload hx hb dLi_countPlaces_26 (lv_at hl 6 rfl) ?_
      refine lv_iload_n hx hb dLi_countPlaces_28 rfl (lv_at hl 2 rfl) ?_
      refine lv_icmp_ge (tgt := 81) hx hb dLi_countPlaces_29 (by decide) (fun c29 => ?_) (fun c29 => ?_)
      · have c29 : n ≤ i := (nI_leI (by omega) (by omega)).mp c29
        exact hret (g1) _ _ _ _ _ _ ⟨fun j hj => by rw [show n = i by omega]; exact j2 j hj, trivial⟩ (hP.sub [0, 1, 2, 3] rfl) (hD.sub [0, 1, 2, 3] (by decide) rfl) hS (Nat.le_of_ble_eq_true rfl) (Nat.le_of_ble_eq_true rfl) dLi_countPlaces_81
      · have c29 : ¬ n ≤ i := fun h => c29 ((nI_leI (by omega) (by omega)).mpr h)
        have hil : i < n := by omega
        have hm := mul_lo (w := bln (d - 1)) hil
        have hq1 := hp i hil
        refine lv_aload_n hx hb dLi_countPlaces_32 rfl (lv_at hl 1 rfl) ?_
        refine lv_iload hx hb dLi_countPlaces_33 (lv_at hl 5 rfl) ?_
        refine lv_iload hx hb dLi_countPlaces_35 (lv_at hl 6 rfl) ?_
        refine lv_iload hx hb dLi_countPlaces_37 (lv_at hl 4 rfl) ?_
        refine lv_imul hx hb dLi_countPlaces_39 ?_
        refine tp_i (show ((nI i) * (nI (bln (d - 1)))) = (nI (i * (bln (d - 1)))) from pk_mul _ _) ?_
        refine lv_iadd hx hb dLi_countPlaces_40 ?_
        refine tp_i (show ((nI (16 + 64 * d)) + (nI (i * (bln (d - 1))))) = (nI ((16 + 64 * d) + (i * (bln (d - 1))))) from nI_add _ _) ?_
        refine lv_iload hx hb dLi_countPlaces_41 (lv_at hl 4 rfl) ?_
        refine kc_l (wc := [(qb, .inr (0, [.ref qo, .int (nI bc)])), (qo, .inl (cB, 10242, .inl o))]) (wr := [(qf, .inr (1, [.ref qt])), (qt, .inl (cI, 1024, .inl g1))]) hP hD hS hA [2, 3] [0, 1] rfl rfl (by decide) (by decide) (by decide) (fun hPc hDc => va_runV (As := [.int (nI ((16 + 64 * d) + (i * (bln (d - 1))))), .int (nI (bln (d - 1)))]) (rest := []) ⟨hx, hb, hml, hown, hts⟩ (c_bitsAt l D cJ cB cI cF qb qo bc o B ((16 + 64 * d) + (i * (bln (d - 1)))) (bln (d - 1)) (lN (pl i)) _ (hc) (hbm) (by omega) (by omega) (k4 i hil) (lN_small (bln_pl hq1) (by omega))) (cwV 2 hts (wsG_k tw_464 (wsG_k tw_465 (wsG_k tw_466 (wsG_k tw_3 (wsG_c tw_467))))) rfl rfl rfl (by decide +kernel) ⟨Nat.le_of_ble_eq_true rfl, Nat.le_of_ble_eq_true rfl⟩) ⟨cf_blind, va_recv hK hPc (ci := 0) (q0 := 0) rfl rfl, cf_pre hPc hK hDc hWd⟩ rfl rfl hl.1 rfl (lv_room (Nat.le_of_ble_eq_true rfl)) dLi_countPlaces_43 ⟨Nat.le_of_ble_eq_true rfl, Nat.le_of_ble_eq_true rfl⟩) (fun r u H locs hw hP hD hS => ?_)
        obtain ⟨rfl, -⟩ := hw
        have hP : va_P D vwCl [(qf, .inr (1, [.ref qt])), (qt, .inl (cI, 1024, .inl g1)), (qb, .inr (0, [.ref qo, .int (nI bc)])), (qo, .inl (cB, 10242, .inl o))] H := hP
        have hD : va_D A [(qf, .inr (1, [.ref qt])), (qt, .inl (cI, 1024, .inl g1)), (qb, .inr (0, [.ref qo, .int (nI bc)])), (qo, .inl (cB, 10242, .inl o))] := hD
        refine lv_l2i hx hb dLi_countPlaces_46 rfl ?_
        refine tp_i (show ((lN (pl i)).toInt32) = (nI (pl i)) from lN_i _) ?_
        refine lv_istore (lv' := [(7, .int (nI (pl i))), (0, .ref qf), (1, .ref qb), (2, .int (nI n)), (3, .int (nI d)), (4, .int (nI (bln (d - 1)))), (5, .int (nI (16 + 64 * d))), (6, .int (nI i))]) hx hb dLi_countPlaces_47 hl (by decide) rfl (fun ls hl => ?_)
        refine lv_iload hx hb dLi_countPlaces_49 (lv_at hl 0 rfl) ?_
        refine lv_if_lt (tgt := 75) hx hb dLi_countPlaces_51 (by decide) (fun c51 => ?_) (fun c51 => ?_)
        · have c51 : (pl i) < 0 := (nI_ltI (b := 0) (by omega) (by omega)).mp c51
          exact absurd c51 (by omega)
        · have c51 : ¬ (pl i) < 0 := fun h => c51 ((nI_ltI (b := 0) (by omega) (by omega)).mpr h)
          refine lv_iload hx hb dLi_countPlaces_54 (lv_at hl 0 rfl) ?_
          refine lv_aload_n hx hb dLi_countPlaces_56 rfl (lv_at hl 1 rfl) ?_
          refine va_get (D := D) (ci := 1) (v := .ref qt) (C := "ColumnForms$Listed") (T := TLi) (N := 1) hx hb hts inLi hown hK hP 0 rfl rfl 0 (by decide) (hts _ tw_116) (fun _ h9 => h9) rfl dLi_countPlaces_57 ?_
          refine va_alen hx hb hK hP 1 2 rfl rfl (v := nI 1024) rfl dLi_countPlaces_60 ?_
          refine lv_icmp_ge (tgt := 75) hx hb dLi_countPlaces_61 (by decide) (fun c61 => ?_) (fun c61 => ?_)
          · have c61 : 1024 ≤ (pl i) := (nI_leI (by omega) (by omega)).mp c61
            exact absurd c61 (by omega)
          · have c61 : ¬ 1024 ≤ (pl i) := fun h => c61 ((nI_leI (by omega) (by omega)).mpr h)
            refine lv_aload_n hx hb dLi_countPlaces_64 rfl (lv_at hl 1 rfl) ?_
            refine va_get (D := D) (ci := 1) (v := .ref qt) (C := "ColumnForms$Listed") (T := TLi) (N := 1) hx hb hts inLi hown hK hP 0 rfl rfl 0 (by decide) (hts _ tw_116) (fun _ h9 => h9) rfl dLi_countPlaces_65 ?_
            refine lv_iload hx hb dLi_countPlaces_68 (lv_at hl 0 rfl) ?_
            refine lv_dup2_11 hx hb dLi_countPlaces_70 rfl rfl ?_
            refine va_iald hx hb hK hP 1 2 rfl rfl (vp_in_nI (by omega) (by omega)) dLi_countPlaces_71 ?_
            refine tp_i (show (g1 (nI (pl i)).toNatClampNeg) = (g1 (pl i)) from congrArg _ (nI_clamp (by omega))) ?_
            refine lv_iconst (v := nI 1) hx hb dLi_countPlaces_72 (by decide) ?_
            refine lv_iadd hx hb dLi_countPlaces_73 ?_
            refine va_iast hx hb hK hP hD hS 1 2 rfl rfl (vp_in_nI (by omega) (by omega)) dLi_countPlaces_74 (fun H locs hP hD hS => ?_)
            rw [nI_clamp (by omega)] at hP hD
            have hP : va_P D vwCl [(qf, .inr (1, [.ref qt])), (qt, .inl (cI, 1024, .inl (upd g1 (pl i) ((g1 (pl i)) + (nI 1))))), (qb, .inr (0, [.ref qo, .int (nI bc)])), (qo, .inl (cB, 10242, .inl o))] H := hP
            have hD : va_D A [(qf, .inr (1, [.ref qt])), (qt, .inl (cI, 1024, .inl (upd g1 (pl i) ((g1 (pl i)) + (nI 1))))), (qb, .inr (0, [.ref qo, .int (nI bc)])), (qo, .inl (cB, 10242, .inl o))] := hD
            refine lv_iinc (v := nI (i + 1)) (lv' := [(6, .int (nI (i + 1))), (7, .int (nI (pl i))), (0, .ref qf), (1, .ref qb), (2, .int (nI n)), (3, .int (nI d)), (4, .int (nI (bln (d - 1)))), (5, .int (nI (16 + 64 * d)))]) hx hb dLi_countPlaces_75 hl (k := 7) rfl (by rw [show (Int32.ofInt 1) = nI 1 from by decide]; exact nI_add _ _) (by decide) rfl (fun ls hl => ?_)
            refine lv_goto (tgt := 26) hx hb dLi_countPlaces_78 (by decide) ?_
            exact ih_lp (i + 1) (upd g1 (pl i) ((g1 (pl i)) + (nI 1))) (by omega) (nO_step j2 (by omega)) (by omega) _ _ _ (hP.sub [0, 1, 2, 3] rfl) (hD.sub [0, 1, 2, 3] (by decide) rfl) hS (lv_sub hl [2, 3, 4, 5, 6, 7, 0] rfl)
  exact lp (n - 0 + 1) 0 f2_1 (Nat.zero_le n) (nO_0 z1) (by omega) _ _ _ (hP.sub [0, 3, 1, 2] rfl) (hD.sub [0, 3, 1, 2] (by decide) rfl) hS (lv_sub hl [3, 4, 5, 6, 2, 1, 0] rfl)

set_option maxHeartbeats 4000000 in
set_option maxRecDepth 100000 in
theorem c_liA (l : Launch) (D : va_G) (cJ cB cI cF : ClassId) (qf : Nat) (qt : Nat) (g : Nat → Int32) (qb : Nat) (qo : Nat) (bc : Nat) (o : Nat → Int32) (B : Nat → Bool) (xs : Nat → Int64) (n : Nat) (qq : Nat) (ht_ : Int32) (tt : Int64) (kd : Nat) (low : Int64) (high : Int64) (sz : Nat) (hc : oB o bc B) (hbm : bc ≤ 81936) (hn : n ≤ 1024) (hn0 : 0 < n) (hL : lL xs n bc B) (hk : kd < 5) : Met l yLi_askAll (Cond.code yLi_askAll cLi_askAll 6 none :: wsG) ({ frames := 4, cells := 0, slots := 0, locals := 91 }) (va_Pc [.ref qf, .ref qb, .int (nI n), .ref qq] (cfPre D (cfT cJ cB cI cF) [(qf, .inr (1, [.ref qt])), (qt, .inl (cI, 1024, .inl g)), (qb, .inr (0, [.ref qo, .int (nI bc)])), (qo, .inl (cB, 10242, .inl o)), (qq, .inr (4, [.int ht_, .long tt, .int (nI kd), .long low, .long high]))] sz)) (va_Qv (fun (u : Int32 × Int64 × (Nat → Int32)) => (u.1 = ht_ + nI (nC (qF kd low high) xs n)) ∧ (u.2.1 = tt + nS (qF kd low high) xs n) ∧ True) (fun u t => cfPost D ((fun (u : Int32 × Int64 × (Nat → Int32)) => [(qf, .inr (1, [.ref qt])), (qt, .inl (cI, 1024, .inl u.2.2)), (qb, .inr (0, [.ref qo, .int (nI bc)])), (qo, .inl (cB, 10242, .inl o)), (qq, .inr (4, [.int u.1, .long u.2.1, .int (nI kd), .long low, .long high]))]) u) (va_A [(qf, .inr (1, [.ref qt])), (qt, .inl (cI, 1024, .inl g)), (qb, .inr (0, [.ref qo, .int (nI bc)])), (qo, .inl (cB, 10242, .inl o)), (qq, .inr (4, [.int ht_, .long tt, .int (nI kd), .long low, .long high]))] sz) t) (va_A [(qf, .inr (1, [.ref qt])), (qt, .inl (cI, 1024, .inl g)), (qb, .inr (0, [.ref qo, .int (nI bc)])), (qo, .inl (cB, 10242, .inl o)), (qq, .inr (4, [.int ht_, .long tt, .int (nI kd), .long low, .long high]))] sz)) 0 0 (va_A [(qf, .inr (1, [.ref qt])), (qt, .inl (cI, 1024, .inl g)), (qb, .inr (0, [.ref qo, .int (nI bc)])), (qo, .inl (cB, 10242, .inl o)), (qq, .inr (4, [.int ht_, .long tt, .int (nI kd), .long low, .long high]))] sz) := by
  refine met_v (cc := cLi_askAll) (maxL := 6) (S := Int32 × Int64 × (Nat → Int32)) (D := D) (wO := fun (u : Int32 × Int64 × (Nat → Int32)) => [(qf, .inr (1, [.ref qt])), (qt, .inl (cI, 1024, .inl u.2.2)), (qb, .inr (0, [.ref qo, .int (nI bc)])), (qo, .inl (cB, 10242, .inl o)), (qq, .inr (4, [.int u.1, .long u.2.1, .int (nI kd), .long low, .long high]))]) (by decide) (Nat.le_of_ble_eq_true rfl) ?_
  intro p e s m below meth c hx hb hml hown hts hlocks hin hWd A hA hsz hP hK hD hS Q hret ls hl
  have hown : s.vm.findClass "ColumnForms$Listed" = some m.cls := hown
  have hl : lv_has ls 6 [(0, .ref qf), (1, .ref qb), (2, .int (nI n)), (3, .ref qq)] := hl
  have hP : va_P D vwCl [(qf, .inr (1, [.ref qt])), (qt, .inl (cI, 1024, .inl g)), (qb, .inr (0, [.ref qo, .int (nI bc)])), (qo, .inl (cB, 10242, .inl o)), (qq, .inr (4, [.int ht_, .long tt, .int (nI kd), .long low, .long high]))] s.heap := hP
  obtain ⟨rs, d, pl, hI, hp, k1, k2, k3, k4⟩ := hL
  have hd1 := hI.2.1
  have hd0 := hI.2.2.2.2 (by omega)
  have hw1 : bln (d - 1) ≤ 10 := bln_d (by omega)
  have hm0 : n * bln (d - 1) ≤ 1024 * 10 := Nat.mul_le_mul hn hw1
  have hpd : ∀ i, i < n → pl i < d ∧ rs (pl i) = xs i := fun i hi => rPl_lt hI hi (hp i hi)
  refine lv_aload_n hx hb dLi_askAll_0 rfl (lv_at hl 1 rfl) ?_
  refine kc_i (wc := [(qb, .inr (0, [.ref qo, .int (nI bc)])), (qo, .inl (cB, 10242, .inl o))]) (wr := [(qf, .inr (1, [.ref qt])), (qt, .inl (cI, 1024, .inl g)), (qq, .inr (4, [.int ht_, .long tt, .int (nI kd), .long low, .long high]))]) hP hD hS hA [2, 3] [0, 1, 4] rfl rfl (by decide) (by decide) (by decide) (fun hPc hDc => va_runS (As := [.ref qb]) (rest := []) ⟨hx, hb, hml, hown, hts⟩ (c_liD l D cJ cB cI cF qb qo bc o B d _ (hc) (hbm) (by omega) (k2) (by omega)) (va_cwS 1 hts (wsG_k tw_461 (wsG_k tw_462 (wsG_k tw_7 (wsG_c tw_463)))) rfl rfl rfl (by decide +kernel) ⟨Nat.le_of_ble_eq_true rfl, Nat.le_of_ble_eq_true rfl⟩) ⟨cf_blind, cf_pre hPc hK hDc hWd⟩ rfl rfl hl.1 rfl (lv_room (Nat.le_of_ble_eq_true rfl)) dLi_askAll_1 ⟨Nat.le_of_ble_eq_true rfl, Nat.le_of_ble_eq_true rfl⟩) (fun r u H locs hw hP hD hS => ?_)
  obtain ⟨rfl, -⟩ := hw
  have hP : va_P D vwCl [(qf, .inr (1, [.ref qt])), (qt, .inl (cI, 1024, .inl g)), (qq, .inr (4, [.int ht_, .long tt, .int (nI kd), .long low, .long high])), (qb, .inr (0, [.ref qo, .int (nI bc)])), (qo, .inl (cB, 10242, .inl o))] H := hP
  have hD : va_D A [(qf, .inr (1, [.ref qt])), (qt, .inl (cI, 1024, .inl g)), (qq, .inr (4, [.int ht_, .long tt, .int (nI kd), .long low, .long high])), (qb, .inr (0, [.ref qo, .int (nI bc)])), (qo, .inl (cB, 10242, .inl o))] := hD
  refine lv_aload_n hx hb dLi_askAll_4 rfl (lv_at hl 0 rfl) ?_
  refine va_get (D := D) (ci := 1) (v := .ref qt) (C := "ColumnForms$Listed") (T := TLi) (N := 1) hx hb hts inLi hown hK hP 0 rfl rfl 0 (by decide) (hts _ tw_116) (fun _ h9 => h9) rfl dLi_askAll_5 ?_
  refine va_alen hx hb hK hP 1 2 rfl rfl (v := nI 1024) rfl dLi_askAll_8 ?_
  refine va_mmin hx hb (hml.trans hl.1.symm) hown (hts _ tw_543) (hts _ tw_399) (hts _ tw_15) (hts _ tw_400) (Nat.le_of_ble_eq_true rfl) (Nat.le_of_ble_eq_true rfl) (Nat.le_of_ble_eq_true rfl) (Nat.le_of_ble_eq_true rfl) dLi_askAll_9 ?_
  refine tp_i (show (if (nI 1024) < (nI d) then (nI 1024) else (nI d)) = (nI d) from by rw [nI_mn (by omega) (by omega)]; exact congrArg nI (by omega)) ?_
  refine lv_istore (lv' := [(4, .int (nI d)), (0, .ref qf), (1, .ref qb), (2, .int (nI n)), (3, .ref qq)]) hx hb dLi_askAll_12 hl (by decide) rfl (fun ls hl => ?_)
  refine lv_aload_n hx hb dLi_askAll_14 rfl (lv_at hl 1 rfl) ?_
  refine lv_aload_n hx hb dLi_askAll_15 rfl (lv_at hl 2 rfl) ?_
  refine lv_iload_n hx hb dLi_askAll_16 rfl (lv_at hl 3 rfl) ?_
  refine lv_iload hx hb dLi_askAll_17 (lv_at hl 0 rfl) ?_
  refine kc_v (wc := [(qf, .inr (1, [.ref qt])), (qt, .inl (cI, 1024, .inl g)), (qb, .inr (0, [.ref qo, .int (nI bc)])), (qo, .inl (cB, 10242, .inl o))]) (wr := [(qq, .inr (4, [.int ht_, .long tt, .int (nI kd), .long low, .long high]))]) hP hD hS hA [0, 1, 3, 4] [2] rfl rfl (by decide) (by decide) (by decide) (fun hPc hDc => va_runV (As := [.ref qb, .int (nI n), .int (nI d)]) (rest := []) ⟨hx, hb, hml, hown, hts⟩ (c_liC l D cJ cB cI cF qf qt g qb qo bc o B xs rs pl n d _ (hc) (hbm) (hn) (by omega) (hd0) (k1) (k4) (fun i hi => (hpd i hi).1)) (cwV 3 hts (wsG_k tw_544 (wsG_k tw_546 (wsG_k tp_w9 (wsG_k tw_7 (wsG_c tw_547))))) rfl rfl rfl (by decide +kernel) ⟨Nat.le_of_ble_eq_true rfl, Nat.le_of_ble_eq_true rfl⟩) ⟨cf_blind, va_recv hK hPc (ci := 1) (q0 := 0) rfl rfl, cf_pre hPc hK hDc hWd⟩ rfl rfl hl.1 rfl (lv_room (Nat.le_of_ble_eq_true rfl)) dLi_askAll_19 ⟨Nat.le_of_ble_eq_true rfl, Nat.le_of_ble_eq_true rfl⟩) (fun u H locs hw hP hD hS => ?_)
  obtain ⟨g2, rfl⟩ : ∃ z, z = u := ⟨u, rfl⟩
  obtain ⟨hg, -⟩ := hw
  have hg : ∀ j, j < 1024 → g2 j = nI (nO pl n j) := hg
  have hP : va_P D vwCl [(qq, .inr (4, [.int ht_, .long tt, .int (nI kd), .long low, .long high])), (qf, .inr (1, [.ref qt])), (qt, .inl (cI, 1024, .inl g2)), (qb, .inr (0, [.ref qo, .int (nI bc)])), (qo, .inl (cB, 10242, .inl o))] H := hP
  have hD : va_D A [(qq, .inr (4, [.int ht_, .long tt, .int (nI kd), .long low, .long high])), (qf, .inr (1, [.ref qt])), (qt, .inl (cI, 1024, .inl g2)), (qb, .inr (0, [.ref qo, .int (nI bc)])), (qo, .inl (cB, 10242, .inl o))] := hD
  refine lv_iconst (v := nI 0) hx hb dLi_askAll_22 (by decide) ?_
  refine lv_istore (lv' := [(5, .int (nI 0)), (4, .int (nI d)), (0, .ref qf), (1, .ref qb), (2, .int (nI n)), (3, .ref qq)]) hx hb dLi_askAll_23 hl (by decide) rfl (fun ls hl => ?_)
  have lp : ∀ (k_lp : Nat) (k : Nat) (h1 : Int32) (t1 : Int64), (k ≤ d) → (h1 = ht_ + nI (lCn (qF kd low high) rs pl n k)) → (t1 = tt + lSm (qF kd low high) rs pl n k) → (d - k < k_lp) → ∀ (H : Heap) (locs : List Loc) (ls : Array Slot), va_P D vwCl [(qf, .inr (1, [.ref qt])), (qt, .inl (cI, 1024, .inl g2)), (qb, .inr (0, [.ref qo, .int (nI bc)])), (qo, .inl (cB, 10242, .inl o)), (qq, .inr (4, [.int h1, .long t1, .int (nI kd), .long low, .long high]))] H → va_D A [(qf, .inr (1, [.ref qt])), (qt, .inl (cI, 1024, .inl g2)), (qb, .inr (0, [.ref qo, .int (nI bc)])), (qo, .inl (cB, 10242, .inl o)), (qq, .inr (4, [.int h1, .long t1, .int (nI kd), .long low, .long high]))] → va_S A s.heap H locs → lv_has ls 6 [(0, .ref qf), (1, .ref qb), (2, .int (nI n)), (3, .ref qq), (4, .int (nI d)), (5, .int (nI k))] → W p l e ({ frames := 4, cells := 0, slots := 0, locals := 91 }) s m ([.ref qf, .ref qb, .int (nI n), .ref qq].toArray) below meth c H locs (0) (0) Q (F0 m 25 ls []) := by
    intro k_lp
    induction k_lp with
    | zero => intro k h1 t1 g1 j2 j3 hfu; exact absurd hfu (by omega)
    | succ k_lp ih_lp =>
      intro k h1 t1 g1 j2 j3 hfu H locs ls hP hD hS hl
      refine lv_iload hx hb dLi_askAll_25 (lv_at hl 5 rfl) ?_
      refine lv_iload hx hb dLi_askAll_27 (lv_at hl 4 rfl) ?_
      refine lv_icmp_ge (tgt := 55) hx hb dLi_askAll_29 (by decide) (fun c29 => ?_) (fun c29 => ?_)
      · have c29 : d ≤ k := (nI_leI (by omega) (by omega)).mp c29
        exact hret (h1, t1, g2) _ _ _ _ _ _ ⟨by show h1 = _; rw [j2, show k = d by omega]; exact congrArg (fun z => ht_ + nI z) (nC_list n hpd), by show t1 = _; rw [j3, show k = d by omega]; exact congrArg (fun z => tt + z) (nS_list n hpd), trivial⟩ (hP.sub [0, 1, 2, 3, 4] rfl) (hD.sub [0, 1, 2, 3, 4] (by decide) rfl) hS (Nat.le_of_ble_eq_true rfl) (Nat.le_of_ble_eq_true rfl) dLi_askAll_55
      · have c29 : ¬ d ≤ k := fun h => c29 ((nI_leI (by omega) (by omega)).mpr h)
        refine lv_aload_n hx hb dLi_askAll_32 rfl (lv_at hl 3 rfl) ?_
        refine lv_aload_n hx hb dLi_askAll_33 rfl (lv_at hl 1 rfl) ?_
        refine lv_iload hx hb dLi_askAll_34 (lv_at hl 5 rfl) ?_
        refine kc_l (wc := [(qb, .inr (0, [.ref qo, .int (nI bc)])), (qo, .inl (cB, 10242, .inl o))]) (wr := [(qf, .inr (1, [.ref qt])), (qt, .inl (cI, 1024, .inl g2)), (qq, .inr (4, [.int h1, .long t1, .int (nI kd), .long low, .long high]))]) hP hD hS hA [2, 3] [0, 1, 4] rfl rfl (by decide) (by decide) (by decide) (fun hPc hDc => va_runS (As := [.ref qb, .int (nI k)]) (rest := [.ref qq]) ⟨hx, hb, hml, hown, hts⟩ (c_liT l D cJ cB cI cF qb qo bc o B k (rs k) _ (hc) (hbm) (by omega) (k3 k (by omega))) (va_cwS 2 hts (wsG_k tw_469 (wsG_k tw_470 (wsG_k tw_7 (wsG_c tw_471)))) rfl rfl rfl (by decide +kernel) ⟨Nat.le_of_ble_eq_true rfl, Nat.le_of_ble_eq_true rfl⟩) ⟨cf_blind, cf_pre hPc hK hDc hWd⟩ rfl rfl hl.1 rfl (lv_room (Nat.le_of_ble_eq_true rfl)) dLi_askAll_36 ⟨Nat.le_of_ble_eq_true rfl, Nat.le_of_ble_eq_true rfl⟩) (fun r u H locs hw hP hD hS => ?_)
        obtain ⟨rfl, -⟩ := hw
        have hP : va_P D vwCl [(qf, .inr (1, [.ref qt])), (qt, .inl (cI, 1024, .inl g2)), (qq, .inr (4, [.int h1, .long t1, .int (nI kd), .long low, .long high])), (qb, .inr (0, [.ref qo, .int (nI bc)])), (qo, .inl (cB, 10242, .inl o))] H := hP
        have hD : va_D A [(qf, .inr (1, [.ref qt])), (qt, .inl (cI, 1024, .inl g2)), (qq, .inr (4, [.int h1, .long t1, .int (nI kd), .long low, .long high])), (qb, .inr (0, [.ref qo, .int (nI bc)])), (qo, .inl (cB, 10242, .inl o))] := hD
        refine lv_aload_n hx hb dLi_askAll_39 rfl (lv_at hl 0 rfl) ?_
        refine va_get (D := D) (ci := 1) (v := .ref qt) (C := "ColumnForms$Listed") (T := TLi) (N := 1) hx hb hts inLi hown hK hP 0 rfl rfl 0 (by decide) (hts _ tw_116) (fun _ h9 => h9) rfl dLi_askAll_40 ?_
        refine lv_iload hx hb dLi_askAll_43 (lv_at hl 5 rfl) ?_
        refine va_iald hx hb hK hP 1 2 rfl rfl (vp_in_nI (by omega) (by omega)) dLi_askAll_45 ?_
        refine tp_i (show (g2 (nI k).toNatClampNeg) = (g2 k) from congrArg _ (nI_clamp (by omega))) ?_
        refine tp_i (show (g2 k) = (nI (nO pl n k)) from hg k (by omega)) ?_
        refine kc_v (wc := [(qq, .inr (4, [.int h1, .long t1, .int (nI kd), .long low, .long high]))]) (wr := [(qf, .inr (1, [.ref qt])), (qt, .inl (cI, 1024, .inl g2)), (qb, .inr (0, [.ref qo, .int (nI bc)])), (qo, .inl (cB, 10242, .inl o))]) hP hD hS hA [2] [0, 1, 3, 4] rfl rfl (by decide) (by decide) (by decide) (fun hPc hDc => va_runV (As := [.long (rs k), .int (nI (nO pl n k))]) (rest := []) ⟨hx, hb, hml, hown, hts⟩ (c_ask l D cJ cB cI cF qq h1 t1 kd low high (rs k) (nI (nO pl n k)) _ (hk)) (cwV 2 hts (wsG_k tw_551 (wsG_k tw_552 (wsG_k tw_553 (wsG_k tw_20 (wsG_c tw_554))))) rfl rfl rfl (by decide +kernel) ⟨Nat.le_of_ble_eq_true rfl, Nat.le_of_ble_eq_true rfl⟩) ⟨cf_blind, va_recv hK hPc (ci := 4) (q0 := 0) rfl rfl, cf_pre hPc hK hDc hWd⟩ rfl rfl hl.1 rfl (lv_room (Nat.le_of_ble_eq_true rfl)) dLi_askAll_46 ⟨Nat.le_of_ble_eq_true rfl, Nat.le_of_ble_eq_true rfl⟩) (fun u H locs hw hP hD hS => ?_)
        obtain ⟨h2_1, t2_2⟩ := u
        obtain ⟨a1, a2, -⟩ := hw
        have a1 : h2_1 = h1 + (if qF kd low high (rs k) then (nI (nO pl n k)) else 0) := a1
        have a2 : t2_2 = t1 + (if qF kd low high (rs k) then (rs k) * (nI (nO pl n k)).toInt64 else 0) := a2
        have hP : va_P D vwCl [(qf, .inr (1, [.ref qt])), (qt, .inl (cI, 1024, .inl g2)), (qb, .inr (0, [.ref qo, .int (nI bc)])), (qo, .inl (cB, 10242, .inl o)), (qq, .inr (4, [.int h2_1, .long t2_2, .int (nI kd), .long low, .long high]))] H := hP
        have hD : va_D A [(qf, .inr (1, [.ref qt])), (qt, .inl (cI, 1024, .inl g2)), (qb, .inr (0, [.ref qo, .int (nI bc)])), (qo, .inl (cB, 10242, .inl o)), (qq, .inr (4, [.int h2_1, .long t2_2, .int (nI kd), .long low, .long high]))] := hD
        refine lv_iinc (v := nI (k + 1)) (lv' := [(5, .int (nI (k + 1))), (0, .ref qf), (1, .ref qb), (2, .int (nI n)), (3, .ref qq), (4, .int (nI d))]) hx hb dLi_askAll_49 hl (k := 5) rfl (by rw [show (Int32.ofInt 1) = nI 1 from by decide]; exact nI_add _ _) (by decide) rfl (fun ls hl => ?_)
        refine lv_goto (tgt := 25) hx hb dLi_askAll_52 (by decide) ?_
        exact ih_lp (k + 1) h2_1 t2_2 (by omega) (askL_c j2 a1) (askL_s hn j3 a2) (by omega) _ _ _ (hP.sub [0, 1, 2, 3, 4] rfl) (hD.sub [0, 1, 2, 3, 4] (by decide) rfl) hS (lv_sub hl [1, 2, 3, 4, 5, 0] rfl)
  exact lp (d - 0 + 1) 0 ht_ tt (Nat.zero_le d) ((Int32.add_zero _).symm) ((Int64.add_zero _).symm) (by omega) _ _ _ (hP.sub [1, 2, 3, 4, 0] rfl) (hD.sub [1, 2, 3, 4, 0] (by decide) rfl) hS (lv_sub hl [2, 3, 4, 5, 1, 0] rfl)

set_option maxHeartbeats 4000000 in
set_option maxRecDepth 100000 in
theorem c_ruW (l : Launch) (D : va_G) (cJ cB cI cF : ClassId) (qf : Nat) (qr : Nat) (n : Nat) (d : Nat) (rn : Nat) (lo : Int64) (hi : Int64) (sl : Int64) (sh : Int64) (qc : Nat) (qs : Nat) (sz : Nat) (hr : rn ≤ 1024) : Met l yRu_weigh (Cond.code yRu_weigh cRu_weigh 2 (some .int) :: wsG) ({ frames := 1, cells := 0, slots := 0, locals := 20 }) (va_Pc [.ref qf, .ref qr] (cfPre D (cfT cJ cB cI cF) [(qf, .inr (6, [])), (qr, .inr (5, [.int (nI n), .int (nI d), .int (nI rn), .long lo, .long hi, .long sl, .long sh, .ref qc, .ref qs]))] sz)) (va_Qi (fun (r : Int32) (u : Unit) => r = nI ((16 + 80 * rn + 7) / 8) ∧ True) (fun u t => cfPost D ((fun (u : Unit) => [(qf, .inr (6, [])), (qr, .inr (5, [.int (nI n), .int (nI d), .int (nI rn), .long lo, .long hi, .long sl, .long sh, .ref qc, .ref qs]))]) u) (va_A [(qf, .inr (6, [])), (qr, .inr (5, [.int (nI n), .int (nI d), .int (nI rn), .long lo, .long hi, .long sl, .long sh, .ref qc, .ref qs]))] sz) t) (va_A [(qf, .inr (6, [])), (qr, .inr (5, [.int (nI n), .int (nI d), .int (nI rn), .long lo, .long hi, .long sl, .long sh, .ref qc, .ref qs]))] sz)) 0 0 (va_A [(qf, .inr (6, [])), (qr, .inr (5, [.int (nI n), .int (nI d), .int (nI rn), .long lo, .long hi, .long sl, .long sh, .ref qc, .ref qs]))] sz) := by
  refine met_i (cc := cRu_weigh) (maxL := 2) (S := Unit) (D := D) (wO := fun (u : Unit) => [(qf, .inr (6, [])), (qr, .inr (5, [.int (nI n), .int (nI d), .int (nI rn), .long lo, .long hi, .long sl, .long sh, .ref qc, .ref qs]))]) (by decide) (Nat.le_of_ble_eq_true rfl) ?_
  intro p e s m below meth c hx hb hml hown hts hlocks hin hWd A hA hsz hP hK hD hS Q hret ls hl
  have hown : s.vm.findClass "ColumnForms$Runs" = some m.cls := hown
  have hl : lv_has ls 2 [(0, .ref qf), (1, .ref qr)] := hl
  have hP : va_P D vwCl [(qf, .inr (6, [])), (qr, .inr (5, [.int (nI n), .int (nI d), .int (nI rn), .long lo, .long hi, .long sl, .long sh, .ref qc, .ref qs]))] s.heap := hP
  refine lv_bipush (v := nI 16) hx hb dRu_weigh_0 (by decide) ?_
  refine lv_bipush (v := nI 80) hx hb dRu_weigh_2 (by decide) ?_
  refine lv_aload_n hx hb dRu_weigh_4 rfl (lv_at hl 1 rfl) ?_
  refine va_get (D := D) (ci := 5) (v := .int (nI rn)) (C := "ColumnForms$Row") (T := TRo) (N := 9) hx hb hts inRo hown hK hP 1 rfl rfl 2 (by decide) (hts _ tw_45) (fun _ h9 => h9) rfl dRu_weigh_5 ?_
  refine lv_imul hx hb dRu_weigh_8 ?_
  refine tp_i (show ((nI 80) * (nI rn)) = (nI (80 * rn)) from pk_mul _ _) ?_
  refine lv_iadd hx hb dRu_weigh_9 ?_
  refine tp_i (show ((nI 16) + (nI (80 * rn))) = (nI (16 + (80 * rn))) from nI_add _ _) ?_
  refine kc_i (wc := []) (wr := [(qf, .inr (6, [])), (qr, .inr (5, [.int (nI n), .int (nI d), .int (nI rn), .long lo, .long hi, .long sl, .long sh, .ref qc, .ref qs]))]) hP hD hS hA [] [0, 1] rfl rfl (by decide) (by decide) (by decide) (fun hPc hDc => va_runSN (As := [.int (nI (16 + (80 * rn)))]) (rest := []) ⟨hx, hb, hml, hown, hts⟩ (c_whole l D cJ cB cI cF (16 + (80 * rn)) _ (by omega)) (⟨va_cnB 1 hts (wsG_c tw_173) rfl rfl rfl (hWd.nest 17 rfl) (hts _ tw_1) (by decide +kernel) ⟨Nat.le_of_ble_eq_true rfl, Nat.le_of_ble_eq_true rfl⟩, hts _ tw_172, trivial⟩) ⟨cf_blind, cf_pre hPc hK hDc hWd⟩ rfl rfl hl.1 rfl (lv_room (Nat.le_of_ble_eq_true rfl)) dRu_weigh_10 ⟨Nat.le_of_ble_eq_true rfl, Nat.le_of_ble_eq_true rfl⟩) (fun r u H locs hw hP hD hS => ?_)
  obtain ⟨rfl, -⟩ := hw
  have hP : va_P D vwCl [(qf, .inr (6, [])), (qr, .inr (5, [.int (nI n), .int (nI d), .int (nI rn), .long lo, .long hi, .long sl, .long sh, .ref qc, .ref qs]))] H := hP
  have hD : va_D A [(qf, .inr (6, [])), (qr, .inr (5, [.int (nI n), .int (nI d), .int (nI rn), .long lo, .long hi, .long sl, .long sh, .ref qc, .ref qs]))] := hD
  exact hret (nI (((16 + (80 * rn)) + 7) / 8)) () _ _ _ _ _ _ ⟨rfl, trivial⟩ (hP.sub [0, 1] rfl) (hD.sub [0, 1] (by decide) rfl) hS (Nat.le_of_ble_eq_true rfl) (Nat.le_of_ble_eq_true rfl) dRu_weigh_13

set_option maxHeartbeats 4000000 in
set_option maxRecDepth 100000 in
theorem c_ruL (l : Launch) (D : va_G) (cJ cB cI cF : ClassId) (qf : Nat) (qr : Nat) (n : Nat) (d : Nat) (rn : Nat) (lo : Int64) (hi : Int64) (sl : Int64) (sh : Int64) (qc : Nat) (qs : Nat) (xs : Nat → Int64) (rs : Nat → Int64) (qb : Nat) (qo : Nat) (o : Nat → Int32) (sz : Nat) (hR : rAll xs n d rn lo hi sl sh rs) (hn0 : 0 < n) : Met l yRu_lay (Cond.code yRu_lay cRu_lay 5 none :: wsG) ({ frames := 2, cells := 0, slots := 0, locals := 52 }) (va_Pc [.ref qf, .ref qr, .ref qb] (cfPre D (cfT cJ cB cI cF) [(qf, .inr (6, [])), (qr, .inr (5, [.int (nI n), .int (nI d), .int (nI rn), .long lo, .long hi, .long sl, .long sh, .ref qc, .ref qs])), (qc, .inl (cJ, 1024, .inr (.inl xs))), (qb, .inr (0, [.ref qo, .int (nI 0)])), (qo, .inl (cB, 10242, .inl o))] sz)) (va_Qv (fun (u : Nat × (Nat → Int32) × (Nat → Bool)) => (oB u.2.1 u.1 u.2.2) ∧ (lR xs n u.1 u.2.2) ∧ (u.1 ≤ 81936) ∧ True) (fun u t => cfPost D ((fun (u : Nat × (Nat → Int32) × (Nat → Bool)) => [(qf, .inr (6, [])), (qr, .inr (5, [.int (nI n), .int (nI d), .int (nI rn), .long lo, .long hi, .long sl, .long sh, .ref qc, .ref qs])), (qc, .inl (cJ, 1024, .inr (.inl xs))), (qb, .inr (0, [.ref qo, .int (nI u.1)])), (qo, .inl (cB, 10242, .inl u.2.1))]) u) (va_A [(qf, .inr (6, [])), (qr, .inr (5, [.int (nI n), .int (nI d), .int (nI rn), .long lo, .long hi, .long sl, .long sh, .ref qc, .ref qs])), (qc, .inl (cJ, 1024, .inr (.inl xs))), (qb, .inr (0, [.ref qo, .int (nI 0)])), (qo, .inl (cB, 10242, .inl o))] sz) t) (va_A [(qf, .inr (6, [])), (qr, .inr (5, [.int (nI n), .int (nI d), .int (nI rn), .long lo, .long hi, .long sl, .long sh, .ref qc, .ref qs])), (qc, .inl (cJ, 1024, .inr (.inl xs))), (qb, .inr (0, [.ref qo, .int (nI 0)])), (qo, .inl (cB, 10242, .inl o))] sz)) 0 0 (va_A [(qf, .inr (6, [])), (qr, .inr (5, [.int (nI n), .int (nI d), .int (nI rn), .long lo, .long hi, .long sl, .long sh, .ref qc, .ref qs])), (qc, .inl (cJ, 1024, .inr (.inl xs))), (qb, .inr (0, [.ref qo, .int (nI 0)])), (qo, .inl (cB, 10242, .inl o))] sz) := by
  refine met_v (cc := cRu_lay) (maxL := 5) (S := Nat × (Nat → Int32) × (Nat → Bool)) (D := D) (wO := fun (u : Nat × (Nat → Int32) × (Nat → Bool)) => [(qf, .inr (6, [])), (qr, .inr (5, [.int (nI n), .int (nI d), .int (nI rn), .long lo, .long hi, .long sl, .long sh, .ref qc, .ref qs])), (qc, .inl (cJ, 1024, .inr (.inl xs))), (qb, .inr (0, [.ref qo, .int (nI u.1)])), (qo, .inl (cB, 10242, .inl u.2.1))]) (by decide) (Nat.le_of_ble_eq_true rfl) ?_
  intro p e s m below meth c hx hb hml hown hts hlocks hin hWd A hA hsz hP hK hD hS Q hret ls hl
  have hown : s.vm.findClass "ColumnForms$Runs" = some m.cls := hown
  have hl : lv_has ls 5 [(0, .ref qf), (1, .ref qr), (2, .ref qb)] := hl
  have hP : va_P D vwCl [(qf, .inr (6, [])), (qr, .inr (5, [.int (nI n), .int (nI d), .int (nI rn), .long lo, .long hi, .long sl, .long sh, .ref qc, .ref qs])), (qc, .inl (cJ, 1024, .inr (.inl xs))), (qb, .inr (0, [.ref qo, .int (nI 0)])), (qo, .inl (cB, 10242, .inl o))] s.heap := hP
  have hn := hR.1
  have hrn := hR.2.2.1
  have hr1 : rn ≤ n := by rw [hrn]; exact rRn_le n
  refine lv_aload_n hx hb dRu_lay_0 rfl (lv_at hl 2 rfl) ?_
  refine lv_aload_n hx hb dRu_lay_1 rfl (lv_at hl 1 rfl) ?_
  refine va_get (D := D) (ci := 5) (v := .int (nI rn)) (C := "ColumnForms$Row") (T := TRo) (N := 9) hx hb hts inRo hown hK hP 1 rfl rfl 2 (by decide) (hts _ tw_45) (fun _ h9 => h9) rfl dRu_lay_2 ?_
  refine lv_i2l hx hb dRu_lay_5 rfl ?_
  refine tp_l (show ((nI rn).toInt64) = (lN rn) from nI_l (by omega)) ?_
  refine lv_bipush (v := nI 16) hx hb dRu_lay_6 (by decide) ?_
  refine kc_v (wc := [(qb, .inr (0, [.ref qo, .int (nI 0)])), (qo, .inl (cB, 10242, .inl o))]) (wr := [(qf, .inr (6, [])), (qr, .inr (5, [.int (nI n), .int (nI d), .int (nI rn), .long lo, .long hi, .long sl, .long sh, .ref qc, .ref qs])), (qc, .inl (cJ, 1024, .inr (.inl xs)))]) hP hD hS hA [3, 4] [0, 1, 2] rfl rfl (by decide) (by decide) (by decide) (fun hPc hDc => va_runV (As := [.long (lN rn), .int (nI 16)]) (rest := []) ⟨hx, hb, hml, hown, hts⟩ (c_append l D cJ cB cI cF qb qo 0 o (fun _ => false) (lN rn) 16 _ (oB_0 o _) (by omega) (by omega)) (cwV 2 hts (wsG_k tw_421 (wsG_k tw_395 (wsG_k tw_396 (wsG_k tw_3 (wsG_c tw_397))))) rfl rfl rfl (by decide +kernel) ⟨Nat.le_of_ble_eq_true rfl, Nat.le_of_ble_eq_true rfl⟩) ⟨cf_blind, va_recv hK hPc (ci := 0) (q0 := 0) rfl rfl, cf_pre hPc hK hDc hWd⟩ rfl rfl hl.1 rfl (lv_room (Nat.le_of_ble_eq_true rfl)) dRu_lay_8 ⟨Nat.le_of_ble_eq_true rfl, Nat.le_of_ble_eq_true rfl⟩) (fun u H locs hw hP hD hS => ?_)
  obtain ⟨o2_1, rfl⟩ : ∃ z, z = u := ⟨u, rfl⟩
  obtain ⟨e1, -⟩ := hw
  have e1 : oB o2_1 (0 + 16) (bA (fun _ => false) 0 (lN rn) 16) := e1
  have hP : va_P D vwCl [(qf, .inr (6, [])), (qr, .inr (5, [.int (nI n), .int (nI d), .int (nI rn), .long lo, .long hi, .long sl, .long sh, .ref qc, .ref qs])), (qc, .inl (cJ, 1024, .inr (.inl xs))), (qb, .inr (0, [.ref qo, .int (nI (0 + 16))])), (qo, .inl (cB, 10242, .inl o2_1))] H := hP
  have hD : va_D A [(qf, .inr (6, [])), (qr, .inr (5, [.int (nI n), .int (nI d), .int (nI rn), .long lo, .long hi, .long sl, .long sh, .ref qc, .ref qs])), (qc, .inl (cJ, 1024, .inr (.inl xs))), (qb, .inr (0, [.ref qo, .int (nI (0 + 16))])), (qo, .inl (cB, 10242, .inl o2_1))] := hD
  refine lv_iconst (v := nI 0) hx hb dRu_lay_11 (by decide) ?_
  refine lv_istore_n (lv' := [(3, .int (nI 0)), (0, .ref qf), (1, .ref qr), (2, .ref qb)]) hx hb dRu_lay_12 rfl hl (by decide) rfl (fun ls hl => ?_)
  refine lv_iconst (v := nI 1) hx hb dRu_lay_13 (by decide) ?_
  refine lv_istore (lv' := [(4, .int (nI 1)), (3, .int (nI 0)), (0, .ref qf), (1, .ref qr), (2, .ref qb)]) hx hb dRu_lay_14 hl (by decide) rfl (fun ls hl => ?_)
  have lp : ∀ (k_lp : Nat) (i : Nat) (st : Nat) (bq : Nat) (o1 : Nat → Int32) (B1 : Nat → Bool) (k : Nat) (sb : Nat → Nat), (1 ≤ i) → (i ≤ n + 1) → (rSt xs n i st k sb) → (bq = 16 + 80 * k) → (oB o1 bq B1) → (fld B1 0 16 (lN rn)) → (∀ m, m < k → fld B1 (16 + 80 * m) 64 (xs (sb m))) → (∀ m, m < k → fld B1 (16 + 80 * m + 64) 16 (lN (sb (m + 1) - sb m))) → (n + 1 - i < k_lp) → ∀ (H : Heap) (locs : List Loc) (ls : Array Slot), va_P D vwCl [(qf, .inr (6, [])), (qr, .inr (5, [.int (nI n), .int (nI d), .int (nI rn), .long lo, .long hi, .long sl, .long sh, .ref qc, .ref qs])), (qc, .inl (cJ, 1024, .inr (.inl xs))), (qb, .inr (0, [.ref qo, .int (nI bq)])), (qo, .inl (cB, 10242, .inl o1))] H → va_D A [(qf, .inr (6, [])), (qr, .inr (5, [.int (nI n), .int (nI d), .int (nI rn), .long lo, .long hi, .long sl, .long sh, .ref qc, .ref qs])), (qc, .inl (cJ, 1024, .inr (.inl xs))), (qb, .inr (0, [.ref qo, .int (nI bq)])), (qo, .inl (cB, 10242, .inl o1))] → va_S A s.heap H locs → lv_has ls 5 [(0, .ref qf), (1, .ref qr), (2, .ref qb), (3, .int (nI st)), (4, .int (nI i))] → W p l e ({ frames := 2, cells := 0, slots := 0, locals := 52 }) s m ([.ref qf, .ref qr, .ref qb].toArray) below meth c H locs (0) (0) Q (F0 m 16 ls []) := by
    intro k_lp
    induction k_lp with
    | zero => intro i st bq o1 B1 k sb g0 g1 g2 g3 g4 g5 g6 g7 hfu; exact absurd hfu (by omega)
    | succ k_lp ih_lp =>
      intro i st bq o1 B1 k sb g0 g1 g2 g3 g4 g5 g6 g7 hfu H locs ls hP hD hS hl
      have hks := rSt_k g2
      have hsn := g2.2.2.2.2.2
      refine lv_iload hx hb dRu_lay_16 (lv_at hl 4 rfl) ?_
      refine lv_aload_n hx hb dRu_lay_18 rfl (lv_at hl 1 rfl) ?_
      refine va_get (D := D) (ci := 5) (v := .int (nI n)) (C := "ColumnForms$Row") (T := TRo) (N := 9) hx hb hts inRo hown hK hP 1 rfl rfl 0 (by decide) (hts _ tw_42) (fun _ h9 => h9) rfl dRu_lay_19 ?_
      refine lv_icmp_gt (tgt := 80) hx hb dRu_lay_22 (by decide) (fun c22 => ?_) (fun c22 => ?_)
      · have c22 : n < i := (nI_ltI (by omega) (by omega)).mp c22
        exact hret (bq, o1, B1) _ _ _ _ _ _ ⟨g4, lR_of (by have e : i = n + 1 := (by omega); rw [← e]; exact g2) hrn g3 g5 g6 g7, by show bq ≤ _; omega, trivial⟩ (hP.sub [0, 1, 2, 3, 4] rfl) (hD.sub [0, 1, 2, 3, 4] (by decide) rfl) hS (Nat.le_of_ble_eq_true rfl) (Nat.le_of_ble_eq_true rfl) dRu_lay_80
      · have c22 : ¬ n < i := fun h => c22 ((nI_ltI (by omega) (by omega)).mpr h)
        refine lv_iload hx hb dRu_lay_25 (lv_at hl 4 rfl) ?_
        refine lv_aload_n hx hb dRu_lay_27 rfl (lv_at hl 1 rfl) ?_
        refine va_get (D := D) (ci := 5) (v := .int (nI n)) (C := "ColumnForms$Row") (T := TRo) (N := 9) hx hb hts inRo hown hK hP 1 rfl rfl 0 (by decide) (hts _ tw_42) (fun _ h9 => h9) rfl dRu_lay_28 ?_
        refine lv_icmp_eq (tgt := 49) hx hb dRu_lay_31 (by decide) (fun c31 => ?_) (fun c31 => ?_)
        · have c31 : i = n := (nI_eq (by omega) (by omega)).mp c31
          have hst := (g2.2.2.1 (by omega)).1
          refine lv_aload_n hx hb dRu_lay_49 rfl (lv_at hl 2 rfl) ?_
          refine lv_aload_n hx hb dRu_lay_50 rfl (lv_at hl 1 rfl) ?_
          refine lv_iload_n hx hb dRu_lay_51 rfl (lv_at hl 3 rfl) ?_
          refine kc_l (wc := [(qr, .inr (5, [.int (nI n), .int (nI d), .int (nI rn), .long lo, .long hi, .long sl, .long sh, .ref qc, .ref qs])), (qc, .inl (cJ, 1024, .inr (.inl xs)))]) (wr := [(qf, .inr (6, [])), (qb, .inr (0, [.ref qo, .int (nI bq)])), (qo, .inl (cB, 10242, .inl o1))]) hP hD hS hA [1, 2] [0, 3, 4] rfl rfl (by decide) (by decide) (by decide) (fun hPc hDc => va_runV (As := [.int (nI st)]) (rest := [.ref qb]) ⟨hx, hb, hml, hown, hts⟩ (c_at l D cJ cB cI cF qr n d rn lo hi sl sh qc qs xs st _ (by omega) (by omega)) (cwV 1 hts (wsG_k tw_422 (wsG_k tw_257 (wsG_k tw_258 (wsG_k tw_2 (wsG_c tw_259))))) rfl rfl rfl (by decide +kernel) ⟨Nat.le_of_ble_eq_true rfl, Nat.le_of_ble_eq_true rfl⟩) ⟨cf_blind, va_recv hK hPc (ci := 5) (q0 := 0) rfl rfl, cf_pre hPc hK hDc hWd⟩ rfl rfl hl.1 rfl (lv_room (Nat.le_of_ble_eq_true rfl)) dRu_lay_52 ⟨Nat.le_of_ble_eq_true rfl, Nat.le_of_ble_eq_true rfl⟩) (fun r u H locs hw hP hD hS => ?_)
          obtain ⟨rfl, -⟩ := hw
          have hP : va_P D vwCl [(qf, .inr (6, [])), (qb, .inr (0, [.ref qo, .int (nI bq)])), (qo, .inl (cB, 10242, .inl o1)), (qr, .inr (5, [.int (nI n), .int (nI d), .int (nI rn), .long lo, .long hi, .long sl, .long sh, .ref qc, .ref qs])), (qc, .inl (cJ, 1024, .inr (.inl xs)))] H := hP
          have hD : va_D A [(qf, .inr (6, [])), (qb, .inr (0, [.ref qo, .int (nI bq)])), (qo, .inl (cB, 10242, .inl o1)), (qr, .inr (5, [.int (nI n), .int (nI d), .int (nI rn), .long lo, .long hi, .long sl, .long sh, .ref qc, .ref qs])), (qc, .inl (cJ, 1024, .inr (.inl xs)))] := hD
          refine lv_bipush (v := nI 64) hx hb dRu_lay_55 (by decide) ?_
          refine kc_v (wc := [(qb, .inr (0, [.ref qo, .int (nI bq)])), (qo, .inl (cB, 10242, .inl o1))]) (wr := [(qf, .inr (6, [])), (qr, .inr (5, [.int (nI n), .int (nI d), .int (nI rn), .long lo, .long hi, .long sl, .long sh, .ref qc, .ref qs])), (qc, .inl (cJ, 1024, .inr (.inl xs)))]) hP hD hS hA [1, 2] [0, 3, 4] rfl rfl (by decide) (by decide) (by decide) (fun hPc hDc => va_runV (As := [.long (xs st), .int (nI 64)]) (rest := []) ⟨hx, hb, hml, hown, hts⟩ (c_append l D cJ cB cI cF qb qo bq o1 B1 (xs st) 64 _ (g4) (by omega) (by omega)) (cwV 2 hts (wsG_k tw_421 (wsG_k tw_395 (wsG_k tw_396 (wsG_k tw_3 (wsG_c tw_397))))) rfl rfl rfl (by decide +kernel) ⟨Nat.le_of_ble_eq_true rfl, Nat.le_of_ble_eq_true rfl⟩) ⟨cf_blind, va_recv hK hPc (ci := 0) (q0 := 0) rfl rfl, cf_pre hPc hK hDc hWd⟩ rfl rfl hl.1 rfl (lv_room (Nat.le_of_ble_eq_true rfl)) dRu_lay_57 ⟨Nat.le_of_ble_eq_true rfl, Nat.le_of_ble_eq_true rfl⟩) (fun u H locs hw hP hD hS => ?_)
          obtain ⟨o2_2, rfl⟩ : ∃ z, z = u := ⟨u, rfl⟩
          obtain ⟨e3, -⟩ := hw
          have e3 : oB o2_2 (bq + 64) (bA B1 bq (xs st) 64) := e3
          have hP : va_P D vwCl [(qf, .inr (6, [])), (qr, .inr (5, [.int (nI n), .int (nI d), .int (nI rn), .long lo, .long hi, .long sl, .long sh, .ref qc, .ref qs])), (qc, .inl (cJ, 1024, .inr (.inl xs))), (qb, .inr (0, [.ref qo, .int (nI (bq + 64))])), (qo, .inl (cB, 10242, .inl o2_2))] H := hP
          have hD : va_D A [(qf, .inr (6, [])), (qr, .inr (5, [.int (nI n), .int (nI d), .int (nI rn), .long lo, .long hi, .long sl, .long sh, .ref qc, .ref qs])), (qc, .inl (cJ, 1024, .inr (.inl xs))), (qb, .inr (0, [.ref qo, .int (nI (bq + 64))])), (qo, .inl (cB, 10242, .inl o2_2))] := hD
          refine lv_aload_n hx hb dRu_lay_60 rfl (lv_at hl 2 rfl) ?_
          refine lv_iload hx hb dRu_lay_61 (lv_at hl 4 rfl) ?_
          refine lv_iload_n hx hb dRu_lay_63 rfl (lv_at hl 3 rfl) ?_
          refine lv_isub hx hb dRu_lay_64 ?_
          refine tp_i (show ((nI i) - (nI st)) = (nI (i - st)) from pk_sub (by omega)) ?_
          refine lv_i2l hx hb dRu_lay_65 rfl ?_
          refine tp_l (show ((nI (i - st)).toInt64) = (lN (i - st)) from nI_l (by omega)) ?_
          refine lv_bipush (v := nI 16) hx hb dRu_lay_66 (by decide) ?_
          refine kc_v (wc := [(qb, .inr (0, [.ref qo, .int (nI (bq + 64))])), (qo, .inl (cB, 10242, .inl o2_2))]) (wr := [(qf, .inr (6, [])), (qr, .inr (5, [.int (nI n), .int (nI d), .int (nI rn), .long lo, .long hi, .long sl, .long sh, .ref qc, .ref qs])), (qc, .inl (cJ, 1024, .inr (.inl xs)))]) hP hD hS hA [3, 4] [0, 1, 2] rfl rfl (by decide) (by decide) (by decide) (fun hPc hDc => va_runV (As := [.long (lN (i - st)), .int (nI 16)]) (rest := []) ⟨hx, hb, hml, hown, hts⟩ (c_append l D cJ cB cI cF qb qo (bq + 64) o2_2 (bA B1 bq (xs st) 64) (lN (i - st)) 16 _ (e3) (by omega) (by omega)) (cwV 2 hts (wsG_k tw_421 (wsG_k tw_395 (wsG_k tw_396 (wsG_k tw_3 (wsG_c tw_397))))) rfl rfl rfl (by decide +kernel) ⟨Nat.le_of_ble_eq_true rfl, Nat.le_of_ble_eq_true rfl⟩) ⟨cf_blind, va_recv hK hPc (ci := 0) (q0 := 0) rfl rfl, cf_pre hPc hK hDc hWd⟩ rfl rfl hl.1 rfl (lv_room (Nat.le_of_ble_eq_true rfl)) dRu_lay_68 ⟨Nat.le_of_ble_eq_true rfl, Nat.le_of_ble_eq_true rfl⟩) (fun u H locs hw hP hD hS => ?_)
          obtain ⟨o2_3, rfl⟩ : ∃ z, z = u := ⟨u, rfl⟩
          obtain ⟨e4, -⟩ := hw
          have e4 : oB o2_3 ((bq + 64) + 16) (bA (bA B1 bq (xs st) 64) (bq + 64) (lN (i - st)) 16) := e4
          have hP : va_P D vwCl [(qf, .inr (6, [])), (qr, .inr (5, [.int (nI n), .int (nI d), .int (nI rn), .long lo, .long hi, .long sl, .long sh, .ref qc, .ref qs])), (qc, .inl (cJ, 1024, .inr (.inl xs))), (qb, .inr (0, [.ref qo, .int (nI ((bq + 64) + 16))])), (qo, .inl (cB, 10242, .inl o2_3))] H := hP
          have hD : va_D A [(qf, .inr (6, [])), (qr, .inr (5, [.int (nI n), .int (nI d), .int (nI rn), .long lo, .long hi, .long sl, .long sh, .ref qc, .ref qs])), (qc, .inl (cJ, 1024, .inr (.inl xs))), (qb, .inr (0, [.ref qo, .int (nI ((bq + 64) + 16))])), (qo, .inl (cB, 10242, .inl o2_3))] := hD
          refine lv_iload hx hb dRu_lay_71 (lv_at hl 4 rfl) ?_
          refine lv_istore_n (lv' := [(3, .int (nI i)), (0, .ref qf), (1, .ref qr), (2, .ref qb), (4, .int (nI i))]) hx hb dRu_lay_73 rfl hl (by decide) rfl (fun ls hl => ?_)
          refine lv_iinc (v := nI (i + 1)) (lv' := [(4, .int (nI (i + 1))), (3, .int (nI i)), (0, .ref qf), (1, .ref qr), (2, .ref qb)]) hx hb dRu_lay_74 hl (k := 4) rfl (by rw [show (Int32.ofInt 1) = nI 1 from by decide]; exact nI_add _ _) (by decide) rfl (fun ls hl => ?_)
          refine lv_goto (tgt := 16) hx hb dRu_lay_77 (by decide) ?_
          exact ih_lp (i + 1) i ((bq + 64) + 16) o2_3 (bA (bA B1 bq (xs st) 64) (bq + 64) (lN (i - st)) 16) (k + 1) (nUp sb (k + 1) i) (by omega) (by omega) (rSt_run g2 (by omega) (Or.inl c31)) (by omega) (e4) (fld_keep (fld_keep g5 (by omega)) (by omega)) (fld_all (a := fun m => 16 + 80 * m) (wd := fun _ => 64) (vl := fun m => xs (nUp sb (k + 1) i m)) (fld_add (a := fun m => 16 + 80 * m) (wd := fun _ => 64) (vl := fun m => xs (nUp sb (k + 1) i m)) (fld_nUp g6) (fun j hj => by show 16 + 80 * j + 64 ≤ bq; omega) (by show 16 + 80 * k = bq; omega) (by show xs (nUp sb (k + 1) i k) = _; rw [nUp_n (by omega), g2.2.1]) rfl) (fun j hj => by show 16 + 80 * j + 64 ≤ bq + 64; omega)) (fld_add (a := fun m => 16 + 80 * m + 64) (wd := fun _ => 16) (vl := fun m => lN (nUp sb (k + 1) i (m + 1) - nUp sb (k + 1) i m)) (fld_all (a := fun m => 16 + 80 * m + 64) (wd := fun _ => 16) (vl := fun m => lN (nUp sb (k + 1) i (m + 1) - nUp sb (k + 1) i m)) (fld_nUp2 g7) (fun j hj => by show 16 + 80 * j + 64 + 16 ≤ bq; omega)) (fun j hj => by show 16 + 80 * j + 64 + 16 ≤ bq + 64; omega) (by show 16 + 80 * k + 64 = bq + 64; omega) (by show lN (nUp sb (k + 1) i (k + 1) - nUp sb (k + 1) i k) = _; rw [nUp_s, nUp_n (by omega), g2.2.1]) rfl) (by omega) _ _ _ (hP.sub [0, 1, 2, 3, 4] rfl) (hD.sub [0, 1, 2, 3, 4] (by decide) rfl) hS (lv_sub hl [2, 3, 4, 1, 0] rfl)
        · have c31 : ¬ i = n := fun h => c31 ((nI_eq (by omega) (by omega)).mpr h)
          have hst := (g2.2.2.1 (by omega)).1
          refine lv_aload_n hx hb dRu_lay_34 rfl (lv_at hl 1 rfl) ?_
          refine lv_iload hx hb dRu_lay_35 (lv_at hl 4 rfl) ?_
          refine kc_l (wc := [(qr, .inr (5, [.int (nI n), .int (nI d), .int (nI rn), .long lo, .long hi, .long sl, .long sh, .ref qc, .ref qs])), (qc, .inl (cJ, 1024, .inr (.inl xs)))]) (wr := [(qf, .inr (6, [])), (qb, .inr (0, [.ref qo, .int (nI bq)])), (qo, .inl (cB, 10242, .inl o1))]) hP hD hS hA [1, 2] [0, 3, 4] rfl rfl (by decide) (by decide) (by decide) (fun hPc hDc => va_runV (As := [.int (nI i)]) (rest := []) ⟨hx, hb, hml, hown, hts⟩ (c_at l D cJ cB cI cF qr n d rn lo hi sl sh qc qs xs i _ (by omega) (by omega)) (cwV 1 hts (wsG_k tw_422 (wsG_k tw_257 (wsG_k tw_258 (wsG_k tw_2 (wsG_c tw_259))))) rfl rfl rfl (by decide +kernel) ⟨Nat.le_of_ble_eq_true rfl, Nat.le_of_ble_eq_true rfl⟩) ⟨cf_blind, va_recv hK hPc (ci := 5) (q0 := 0) rfl rfl, cf_pre hPc hK hDc hWd⟩ rfl rfl hl.1 rfl (lv_room (Nat.le_of_ble_eq_true rfl)) dRu_lay_37 ⟨Nat.le_of_ble_eq_true rfl, Nat.le_of_ble_eq_true rfl⟩) (fun r u H locs hw hP hD hS => ?_)
          obtain ⟨rfl, -⟩ := hw
          have hP : va_P D vwCl [(qf, .inr (6, [])), (qb, .inr (0, [.ref qo, .int (nI bq)])), (qo, .inl (cB, 10242, .inl o1)), (qr, .inr (5, [.int (nI n), .int (nI d), .int (nI rn), .long lo, .long hi, .long sl, .long sh, .ref qc, .ref qs])), (qc, .inl (cJ, 1024, .inr (.inl xs)))] H := hP
          have hD : va_D A [(qf, .inr (6, [])), (qb, .inr (0, [.ref qo, .int (nI bq)])), (qo, .inl (cB, 10242, .inl o1)), (qr, .inr (5, [.int (nI n), .int (nI d), .int (nI rn), .long lo, .long hi, .long sl, .long sh, .ref qc, .ref qs])), (qc, .inl (cJ, 1024, .inr (.inl xs)))] := hD
          refine lv_aload_n hx hb dRu_lay_40 rfl (lv_at hl 1 rfl) ?_
          refine lv_iload_n hx hb dRu_lay_41 rfl (lv_at hl 3 rfl) ?_
          refine kc_l (wc := [(qr, .inr (5, [.int (nI n), .int (nI d), .int (nI rn), .long lo, .long hi, .long sl, .long sh, .ref qc, .ref qs])), (qc, .inl (cJ, 1024, .inr (.inl xs)))]) (wr := [(qf, .inr (6, [])), (qb, .inr (0, [.ref qo, .int (nI bq)])), (qo, .inl (cB, 10242, .inl o1))]) hP hD hS hA [3, 4] [0, 1, 2] rfl rfl (by decide) (by decide) (by decide) (fun hPc hDc => va_runV (As := [.int (nI st)]) (rest := [.long (xs i)]) ⟨hx, hb, hml, hown, hts⟩ (c_at l D cJ cB cI cF qr n d rn lo hi sl sh qc qs xs st _ (by omega) (by omega)) (cwV 1 hts (wsG_k tw_422 (wsG_k tw_257 (wsG_k tw_258 (wsG_k tw_2 (wsG_c tw_259))))) rfl rfl rfl (by decide +kernel) ⟨Nat.le_of_ble_eq_true rfl, Nat.le_of_ble_eq_true rfl⟩) ⟨cf_blind, va_recv hK hPc (ci := 5) (q0 := 0) rfl rfl, cf_pre hPc hK hDc hWd⟩ rfl rfl hl.1 rfl (lv_room (Nat.le_of_ble_eq_true rfl)) dRu_lay_42 ⟨Nat.le_of_ble_eq_true rfl, Nat.le_of_ble_eq_true rfl⟩) (fun r u H locs hw hP hD hS => ?_)
          obtain ⟨rfl, -⟩ := hw
          have hP : va_P D vwCl [(qf, .inr (6, [])), (qb, .inr (0, [.ref qo, .int (nI bq)])), (qo, .inl (cB, 10242, .inl o1)), (qr, .inr (5, [.int (nI n), .int (nI d), .int (nI rn), .long lo, .long hi, .long sl, .long sh, .ref qc, .ref qs])), (qc, .inl (cJ, 1024, .inr (.inl xs)))] H := hP
          have hD : va_D A [(qf, .inr (6, [])), (qb, .inr (0, [.ref qo, .int (nI bq)])), (qo, .inl (cB, 10242, .inl o1)), (qr, .inr (5, [.int (nI n), .int (nI d), .int (nI rn), .long lo, .long hi, .long sl, .long sh, .ref qc, .ref qs])), (qc, .inl (cJ, 1024, .inr (.inl xs)))] := hD
          refine W.lcmp hx hb dRu_lay_45 ?_
          refine lv_if_eq (tgt := 74) hx hb dRu_lay_46 (by decide) (fun c46 => ?_) (fun c46 => ?_)
          · have c46 : (xs i) = (xs st) := (lg_cmp_eq _ _).mp c46
            refine lv_iinc (v := nI (i + 1)) (lv' := [(4, .int (nI (i + 1))), (0, .ref qf), (1, .ref qr), (2, .ref qb), (3, .int (nI st))]) hx hb dRu_lay_74 hl (k := 4) rfl (by rw [show (Int32.ofInt 1) = nI 1 from by decide]; exact nI_add _ _) (by decide) rfl (fun ls hl => ?_)
            refine lv_goto (tgt := 16) hx hb dRu_lay_77 (by decide) ?_
            exact ih_lp (i + 1) st bq o1 B1 k sb (by omega) (by omega) (rSt_same g2 (by omega) c46) (g3) (g4) (g5) (g6) (g7) (by omega) _ _ _ (hP.sub [0, 3, 4, 1, 2] rfl) (hD.sub [0, 3, 4, 1, 2] (by decide) rfl) hS (lv_sub hl [1, 2, 3, 4, 0] rfl)
          · have c46 : ¬ (xs i) = (xs st) := fun h => c46 ((lg_cmp_eq _ _).mpr h)
            refine lv_aload_n hx hb dRu_lay_49 rfl (lv_at hl 2 rfl) ?_
            refine lv_aload_n hx hb dRu_lay_50 rfl (lv_at hl 1 rfl) ?_
            refine lv_iload_n hx hb dRu_lay_51 rfl (lv_at hl 3 rfl) ?_
            refine kc_l (wc := [(qr, .inr (5, [.int (nI n), .int (nI d), .int (nI rn), .long lo, .long hi, .long sl, .long sh, .ref qc, .ref qs])), (qc, .inl (cJ, 1024, .inr (.inl xs)))]) (wr := [(qf, .inr (6, [])), (qb, .inr (0, [.ref qo, .int (nI bq)])), (qo, .inl (cB, 10242, .inl o1))]) hP hD hS hA [3, 4] [0, 1, 2] rfl rfl (by decide) (by decide) (by decide) (fun hPc hDc => va_runV (As := [.int (nI st)]) (rest := [.ref qb]) ⟨hx, hb, hml, hown, hts⟩ (c_at l D cJ cB cI cF qr n d rn lo hi sl sh qc qs xs st _ (by omega) (by omega)) (cwV 1 hts (wsG_k tw_422 (wsG_k tw_257 (wsG_k tw_258 (wsG_k tw_2 (wsG_c tw_259))))) rfl rfl rfl (by decide +kernel) ⟨Nat.le_of_ble_eq_true rfl, Nat.le_of_ble_eq_true rfl⟩) ⟨cf_blind, va_recv hK hPc (ci := 5) (q0 := 0) rfl rfl, cf_pre hPc hK hDc hWd⟩ rfl rfl hl.1 rfl (lv_room (Nat.le_of_ble_eq_true rfl)) dRu_lay_52 ⟨Nat.le_of_ble_eq_true rfl, Nat.le_of_ble_eq_true rfl⟩) (fun r u H locs hw hP hD hS => ?_)
            obtain ⟨rfl, -⟩ := hw
            have hP : va_P D vwCl [(qf, .inr (6, [])), (qb, .inr (0, [.ref qo, .int (nI bq)])), (qo, .inl (cB, 10242, .inl o1)), (qr, .inr (5, [.int (nI n), .int (nI d), .int (nI rn), .long lo, .long hi, .long sl, .long sh, .ref qc, .ref qs])), (qc, .inl (cJ, 1024, .inr (.inl xs)))] H := hP
            have hD : va_D A [(qf, .inr (6, [])), (qb, .inr (0, [.ref qo, .int (nI bq)])), (qo, .inl (cB, 10242, .inl o1)), (qr, .inr (5, [.int (nI n), .int (nI d), .int (nI rn), .long lo, .long hi, .long sl, .long sh, .ref qc, .ref qs])), (qc, .inl (cJ, 1024, .inr (.inl xs)))] := hD
            refine lv_bipush (v := nI 64) hx hb dRu_lay_55 (by decide) ?_
            refine kc_v (wc := [(qb, .inr (0, [.ref qo, .int (nI bq)])), (qo, .inl (cB, 10242, .inl o1))]) (wr := [(qf, .inr (6, [])), (qr, .inr (5, [.int (nI n), .int (nI d), .int (nI rn), .long lo, .long hi, .long sl, .long sh, .ref qc, .ref qs])), (qc, .inl (cJ, 1024, .inr (.inl xs)))]) hP hD hS hA [1, 2] [0, 3, 4] rfl rfl (by decide) (by decide) (by decide) (fun hPc hDc => va_runV (As := [.long (xs st), .int (nI 64)]) (rest := []) ⟨hx, hb, hml, hown, hts⟩ (c_append l D cJ cB cI cF qb qo bq o1 B1 (xs st) 64 _ (g4) (by omega) (by omega)) (cwV 2 hts (wsG_k tw_421 (wsG_k tw_395 (wsG_k tw_396 (wsG_k tw_3 (wsG_c tw_397))))) rfl rfl rfl (by decide +kernel) ⟨Nat.le_of_ble_eq_true rfl, Nat.le_of_ble_eq_true rfl⟩) ⟨cf_blind, va_recv hK hPc (ci := 0) (q0 := 0) rfl rfl, cf_pre hPc hK hDc hWd⟩ rfl rfl hl.1 rfl (lv_room (Nat.le_of_ble_eq_true rfl)) dRu_lay_57 ⟨Nat.le_of_ble_eq_true rfl, Nat.le_of_ble_eq_true rfl⟩) (fun u H locs hw hP hD hS => ?_)
            obtain ⟨o2_4, rfl⟩ : ∃ z, z = u := ⟨u, rfl⟩
            obtain ⟨e3, -⟩ := hw
            have e3 : oB o2_4 (bq + 64) (bA B1 bq (xs st) 64) := e3
            have hP : va_P D vwCl [(qf, .inr (6, [])), (qr, .inr (5, [.int (nI n), .int (nI d), .int (nI rn), .long lo, .long hi, .long sl, .long sh, .ref qc, .ref qs])), (qc, .inl (cJ, 1024, .inr (.inl xs))), (qb, .inr (0, [.ref qo, .int (nI (bq + 64))])), (qo, .inl (cB, 10242, .inl o2_4))] H := hP
            have hD : va_D A [(qf, .inr (6, [])), (qr, .inr (5, [.int (nI n), .int (nI d), .int (nI rn), .long lo, .long hi, .long sl, .long sh, .ref qc, .ref qs])), (qc, .inl (cJ, 1024, .inr (.inl xs))), (qb, .inr (0, [.ref qo, .int (nI (bq + 64))])), (qo, .inl (cB, 10242, .inl o2_4))] := hD
            refine lv_aload_n hx hb dRu_lay_60 rfl (lv_at hl 2 rfl) ?_
            refine lv_iload hx hb dRu_lay_61 (lv_at hl 4 rfl) ?_
            refine lv_iload_n hx hb dRu_lay_63 rfl (lv_at hl 3 rfl) ?_
            refine lv_isub hx hb dRu_lay_64 ?_
            refine tp_i (show ((nI i) - (nI st)) = (nI (i - st)) from pk_sub (by omega)) ?_
            refine lv_i2l hx hb dRu_lay_65 rfl ?_
            refine tp_l (show ((nI (i - st)).toInt64) = (lN (i - st)) from nI_l (by omega)) ?_
            refine lv_bipush (v := nI 16) hx hb dRu_lay_66 (by decide) ?_
            refine kc_v (wc := [(qb, .inr (0, [.ref qo, .int (nI (bq + 64))])), (qo, .inl (cB, 10242, .inl o2_4))]) (wr := [(qf, .inr (6, [])), (qr, .inr (5, [.int (nI n), .int (nI d), .int (nI rn), .long lo, .long hi, .long sl, .long sh, .ref qc, .ref qs])), (qc, .inl (cJ, 1024, .inr (.inl xs)))]) hP hD hS hA [3, 4] [0, 1, 2] rfl rfl (by decide) (by decide) (by decide) (fun hPc hDc => va_runV (As := [.long (lN (i - st)), .int (nI 16)]) (rest := []) ⟨hx, hb, hml, hown, hts⟩ (c_append l D cJ cB cI cF qb qo (bq + 64) o2_4 (bA B1 bq (xs st) 64) (lN (i - st)) 16 _ (e3) (by omega) (by omega)) (cwV 2 hts (wsG_k tw_421 (wsG_k tw_395 (wsG_k tw_396 (wsG_k tw_3 (wsG_c tw_397))))) rfl rfl rfl (by decide +kernel) ⟨Nat.le_of_ble_eq_true rfl, Nat.le_of_ble_eq_true rfl⟩) ⟨cf_blind, va_recv hK hPc (ci := 0) (q0 := 0) rfl rfl, cf_pre hPc hK hDc hWd⟩ rfl rfl hl.1 rfl (lv_room (Nat.le_of_ble_eq_true rfl)) dRu_lay_68 ⟨Nat.le_of_ble_eq_true rfl, Nat.le_of_ble_eq_true rfl⟩) (fun u H locs hw hP hD hS => ?_)
            obtain ⟨o2_5, rfl⟩ : ∃ z, z = u := ⟨u, rfl⟩
            obtain ⟨e4, -⟩ := hw
            have e4 : oB o2_5 ((bq + 64) + 16) (bA (bA B1 bq (xs st) 64) (bq + 64) (lN (i - st)) 16) := e4
            have hP : va_P D vwCl [(qf, .inr (6, [])), (qr, .inr (5, [.int (nI n), .int (nI d), .int (nI rn), .long lo, .long hi, .long sl, .long sh, .ref qc, .ref qs])), (qc, .inl (cJ, 1024, .inr (.inl xs))), (qb, .inr (0, [.ref qo, .int (nI ((bq + 64) + 16))])), (qo, .inl (cB, 10242, .inl o2_5))] H := hP
            have hD : va_D A [(qf, .inr (6, [])), (qr, .inr (5, [.int (nI n), .int (nI d), .int (nI rn), .long lo, .long hi, .long sl, .long sh, .ref qc, .ref qs])), (qc, .inl (cJ, 1024, .inr (.inl xs))), (qb, .inr (0, [.ref qo, .int (nI ((bq + 64) + 16))])), (qo, .inl (cB, 10242, .inl o2_5))] := hD
            refine lv_iload hx hb dRu_lay_71 (lv_at hl 4 rfl) ?_
            refine lv_istore_n (lv' := [(3, .int (nI i)), (0, .ref qf), (1, .ref qr), (2, .ref qb), (4, .int (nI i))]) hx hb dRu_lay_73 rfl hl (by decide) rfl (fun ls hl => ?_)
            refine lv_iinc (v := nI (i + 1)) (lv' := [(4, .int (nI (i + 1))), (3, .int (nI i)), (0, .ref qf), (1, .ref qr), (2, .ref qb)]) hx hb dRu_lay_74 hl (k := 4) rfl (by rw [show (Int32.ofInt 1) = nI 1 from by decide]; exact nI_add _ _) (by decide) rfl (fun ls hl => ?_)
            refine lv_goto (tgt := 16) hx hb dRu_lay_77 (by decide) ?_
            exact ih_lp (i + 1) i ((bq + 64) + 16) o2_5 (bA (bA B1 bq (xs st) 64) (bq + 64) (lN (i - st)) 16) (k + 1) (nUp sb (k + 1) i) (by omega) (by omega) (rSt_run g2 (by omega) (Or.inr c46)) (by omega) (e4) (fld_keep (fld_keep g5 (by omega)) (by omega)) (fld_all (a := fun m => 16 + 80 * m) (wd := fun _ => 64) (vl := fun m => xs (nUp sb (k + 1) i m)) (fld_add (a := fun m => 16 + 80 * m) (wd := fun _ => 64) (vl := fun m => xs (nUp sb (k + 1) i m)) (fld_nUp g6) (fun j hj => by show 16 + 80 * j + 64 ≤ bq; omega) (by show 16 + 80 * k = bq; omega) (by show xs (nUp sb (k + 1) i k) = _; rw [nUp_n (by omega), g2.2.1]) rfl) (fun j hj => by show 16 + 80 * j + 64 ≤ bq + 64; omega)) (fld_add (a := fun m => 16 + 80 * m + 64) (wd := fun _ => 16) (vl := fun m => lN (nUp sb (k + 1) i (m + 1) - nUp sb (k + 1) i m)) (fld_all (a := fun m => 16 + 80 * m + 64) (wd := fun _ => 16) (vl := fun m => lN (nUp sb (k + 1) i (m + 1) - nUp sb (k + 1) i m)) (fld_nUp2 g7) (fun j hj => by show 16 + 80 * j + 64 + 16 ≤ bq; omega)) (fun j hj => by show 16 + 80 * j + 64 + 16 ≤ bq + 64; omega) (by show 16 + 80 * k + 64 = bq + 64; omega) (by show lN (nUp sb (k + 1) i (k + 1) - nUp sb (k + 1) i k) = _; rw [nUp_s, nUp_n (by omega), g2.2.1]) rfl) (by omega) _ _ _ (hP.sub [0, 1, 2, 3, 4] rfl) (hD.sub [0, 1, 2, 3, 4] (by decide) rfl) hS (lv_sub hl [2, 3, 4, 1, 0] rfl)
  exact lp (n + 1 - 1 + 1) 1 0 (0 + 16) o2_1 (bA (fun _ => false) 0 (lN rn) 16) 0 (fun _ => 0) (by omega) (by omega) (rSt_0 hn0) (rfl) (e1) (bA_fld _ _ _ _) (fun j hj => absurd hj (by omega)) (fun j hj => absurd hj (by omega)) (by omega) _ _ _ (hP.sub [0, 1, 2, 3, 4] rfl) (hD.sub [0, 1, 2, 3, 4] (by decide) rfl) hS (lv_sub hl [2, 3, 4, 1, 0] rfl)

set_option maxHeartbeats 4000000 in
set_option maxRecDepth 100000 in
theorem c_ruI (l : Launch) (D : va_G) (cJ cB cI cF : ClassId) (qb : Nat) (qo : Nat) (bc : Nat) (o : Nat → Int32) (B : Nat → Bool) (k : Nat) (sz : Nat) (hc : oB o bc B) (hbm : bc ≤ 81936) (hb0 : 16 ≤ bc) (hf : fld B 0 16 (lN k)) (hd : k ≤ 1024) : Met l yRu_runsIn (Cond.code yRu_runsIn cRu_runsIn 1 (some .int) :: wsG) ({ frames := 2, cells := 0, slots := 0, locals := 51 }) (va_Pc [.ref qb] (cfPre D (cfT cJ cB cI cF) [(qb, .inr (0, [.ref qo, .int (nI bc)])), (qo, .inl (cB, 10242, .inl o))] sz)) (va_Qi (fun (r : Int32) (u : Unit) => r = nI k ∧ True) (fun u t => cfPost D ((fun (u : Unit) => [(qb, .inr (0, [.ref qo, .int (nI bc)])), (qo, .inl (cB, 10242, .inl o))]) u) (va_A [(qb, .inr (0, [.ref qo, .int (nI bc)])), (qo, .inl (cB, 10242, .inl o))] sz) t) (va_A [(qb, .inr (0, [.ref qo, .int (nI bc)])), (qo, .inl (cB, 10242, .inl o))] sz)) 0 0 (va_A [(qb, .inr (0, [.ref qo, .int (nI bc)])), (qo, .inl (cB, 10242, .inl o))] sz) := by
  refine met_i (cc := cRu_runsIn) (maxL := 1) (S := Unit) (D := D) (wO := fun (u : Unit) => [(qb, .inr (0, [.ref qo, .int (nI bc)])), (qo, .inl (cB, 10242, .inl o))]) (by decide) (Nat.le_of_ble_eq_true rfl) ?_
  intro p e s m below meth c hx hb hml hown hts hlocks hin hWd A hA hsz hP hK hD hS Q hret ls hl
  have hown : s.vm.findClass "ColumnForms$Runs" = some m.cls := hown
  have hl : lv_has ls 1 [(0, .ref qb)] := hl
  have hP : va_P D vwCl [(qb, .inr (0, [.ref qo, .int (nI bc)])), (qo, .inl (cB, 10242, .inl o))] s.heap := hP
  refine lv_aload_n hx hb dRu_runsIn_0 rfl (lv_at hl 0 rfl) ?_
  refine lv_iconst (v := nI 0) hx hb dRu_runsIn_1 (by decide) ?_
  refine lv_bipush (v := nI 16) hx hb dRu_runsIn_2 (by decide) ?_
  refine kc_l (wc := [(qb, .inr (0, [.ref qo, .int (nI bc)])), (qo, .inl (cB, 10242, .inl o))]) (wr := []) hP hD hS hA [0, 1] [] rfl rfl (by decide) (by decide) (by decide) (fun hPc hDc => va_runV (As := [.int (nI 0), .int (nI 16)]) (rest := []) ⟨hx, hb, hml, hown, hts⟩ (c_bitsAt l D cJ cB cI cF qb qo bc o B 0 16 (lN k) _ (hc) (hbm) (by omega) (by omega) (hf) (lN_small (Nat.lt_of_le_of_lt hd (by decide)) (by omega))) (cwV 2 hts (wsG_k tw_486 (wsG_k tw_465 (wsG_k tw_466 (wsG_k tw_3 (wsG_c tw_467))))) rfl rfl rfl (by decide +kernel) ⟨Nat.le_of_ble_eq_true rfl, Nat.le_of_ble_eq_true rfl⟩) ⟨cf_blind, va_recv hK hPc (ci := 0) (q0 := 0) rfl rfl, cf_pre hPc hK hDc hWd⟩ rfl rfl hl.1 rfl (lv_room (Nat.le_of_ble_eq_true rfl)) dRu_runsIn_4 ⟨Nat.le_of_ble_eq_true rfl, Nat.le_of_ble_eq_true rfl⟩) (fun r u H locs hw hP hD hS => ?_)
  obtain ⟨rfl, -⟩ := hw
  have hP : va_P D vwCl [(qb, .inr (0, [.ref qo, .int (nI bc)])), (qo, .inl (cB, 10242, .inl o))] H := hP
  have hD : va_D A [(qb, .inr (0, [.ref qo, .int (nI bc)])), (qo, .inl (cB, 10242, .inl o))] := hD
  refine lv_l2i hx hb dRu_runsIn_7 rfl ?_
  refine tp_i (show ((lN k).toInt32) = (nI k) from lN_i _) ?_
  exact hret (nI k) () _ _ _ _ _ _ ⟨rfl, trivial⟩ (hP.sub [0, 1] rfl) (hD.sub [0, 1] (by decide) rfl) hS (Nat.le_of_ble_eq_true rfl) (Nat.le_of_ble_eq_true rfl) dRu_runsIn_8

set_option maxHeartbeats 4000000 in
set_option maxRecDepth 100000 in
theorem c_ruC (l : Launch) (D : va_G) (cJ cB cI cF : ClassId) (qb : Nat) (qo : Nat) (bc : Nat) (o : Nat → Int32) (B : Nat → Bool) (k : Nat) (vv : Int64) (sz : Nat) (hc : oB o bc B) (hbm : bc ≤ 81936) (hb0 : 16 + 80 * k + 64 ≤ bc) (hf : fld B (16 + 80 * k) 64 vv) : Met l yRu_cellOf (Cond.code yRu_cellOf cRu_cellOf 2 (some .long) :: wsG) ({ frames := 2, cells := 0, slots := 0, locals := 51 }) (va_Pc [.ref qb, .int (nI k)] (cfPre D (cfT cJ cB cI cF) [(qb, .inr (0, [.ref qo, .int (nI bc)])), (qo, .inl (cB, 10242, .inl o))] sz)) (va_Ql (fun (r : Int64) (u : Unit) => r = vv ∧ True) (fun u t => cfPost D ((fun (u : Unit) => [(qb, .inr (0, [.ref qo, .int (nI bc)])), (qo, .inl (cB, 10242, .inl o))]) u) (va_A [(qb, .inr (0, [.ref qo, .int (nI bc)])), (qo, .inl (cB, 10242, .inl o))] sz) t) (va_A [(qb, .inr (0, [.ref qo, .int (nI bc)])), (qo, .inl (cB, 10242, .inl o))] sz)) 0 0 (va_A [(qb, .inr (0, [.ref qo, .int (nI bc)])), (qo, .inl (cB, 10242, .inl o))] sz) := by
  refine met_l (cc := cRu_cellOf) (maxL := 2) (S := Unit) (D := D) (wO := fun (u : Unit) => [(qb, .inr (0, [.ref qo, .int (nI bc)])), (qo, .inl (cB, 10242, .inl o))]) (by decide) (Nat.le_of_ble_eq_true rfl) ?_
  intro p e s m below meth c hx hb hml hown hts hlocks hin hWd A hA hsz hP hK hD hS Q hret ls hl
  have hown : s.vm.findClass "ColumnForms$Runs" = some m.cls := hown
  have hl : lv_has ls 2 [(0, .ref qb), (1, .int (nI k))] := hl
  have hP : va_P D vwCl [(qb, .inr (0, [.ref qo, .int (nI bc)])), (qo, .inl (cB, 10242, .inl o))] s.heap := hP
  refine lv_aload_n hx hb dRu_cellOf_0 rfl (lv_at hl 0 rfl) ?_
  refine lv_bipush (v := nI 16) hx hb dRu_cellOf_1 (by decide) ?_
  refine lv_bipush (v := nI 80) hx hb dRu_cellOf_3 (by decide) ?_
  refine lv_iload_n hx hb dRu_cellOf_5 rfl (lv_at hl 1 rfl) ?_
  refine lv_imul hx hb dRu_cellOf_6 ?_
  refine tp_i (show ((nI 80) * (nI k)) = (nI (80 * k)) from pk_mul _ _) ?_
  refine lv_iadd hx hb dRu_cellOf_7 ?_
  refine tp_i (show ((nI 16) + (nI (80 * k))) = (nI (16 + (80 * k))) from nI_add _ _) ?_
  refine lv_bipush (v := nI 64) hx hb dRu_cellOf_8 (by decide) ?_
  refine kc_l (wc := [(qb, .inr (0, [.ref qo, .int (nI bc)])), (qo, .inl (cB, 10242, .inl o))]) (wr := []) hP hD hS hA [0, 1] [] rfl rfl (by decide) (by decide) (by decide) (fun hPc hDc => va_runV (As := [.int (nI (16 + (80 * k))), .int (nI 64)]) (rest := []) ⟨hx, hb, hml, hown, hts⟩ (c_bitsAt l D cJ cB cI cF qb qo bc o B (16 + (80 * k)) 64 vv _ (hc) (hbm) (by omega) (by omega) (hf) (bL_64)) (cwV 2 hts (wsG_k tw_486 (wsG_k tw_465 (wsG_k tw_466 (wsG_k tw_3 (wsG_c tw_467))))) rfl rfl rfl (by decide +kernel) ⟨Nat.le_of_ble_eq_true rfl, Nat.le_of_ble_eq_true rfl⟩) ⟨cf_blind, va_recv hK hPc (ci := 0) (q0 := 0) rfl rfl, cf_pre hPc hK hDc hWd⟩ rfl rfl hl.1 rfl (lv_room (Nat.le_of_ble_eq_true rfl)) dRu_cellOf_10 ⟨Nat.le_of_ble_eq_true rfl, Nat.le_of_ble_eq_true rfl⟩) (fun r u H locs hw hP hD hS => ?_)
  obtain ⟨hrv, -⟩ := hw
  rw [hrv]
  have hP : va_P D vwCl [(qb, .inr (0, [.ref qo, .int (nI bc)])), (qo, .inl (cB, 10242, .inl o))] H := hP
  have hD : va_D A [(qb, .inr (0, [.ref qo, .int (nI bc)])), (qo, .inl (cB, 10242, .inl o))] := hD
  exact hret vv () _ _ _ _ _ _ ⟨rfl, trivial⟩ (hP.sub [0, 1] rfl) (hD.sub [0, 1] (by decide) rfl) hS (Nat.le_of_ble_eq_true rfl) (Nat.le_of_ble_eq_true rfl) dRu_cellOf_13

set_option maxHeartbeats 4000000 in
set_option maxRecDepth 100000 in
theorem c_ruN (l : Launch) (D : va_G) (cJ cB cI cF : ClassId) (qb : Nat) (qo : Nat) (bc : Nat) (o : Nat → Int32) (B : Nat → Bool) (k : Nat) (z : Nat) (sz : Nat) (hc : oB o bc B) (hbm : bc ≤ 81936) (hb0 : 16 + 80 * k + 80 ≤ bc) (hf : fld B (16 + 80 * k + 64) 16 (lN z)) (hz : z ≤ 1024) : Met l yRu_lengthOf (Cond.code yRu_lengthOf cRu_lengthOf 2 (some .int) :: wsG) ({ frames := 2, cells := 0, slots := 0, locals := 51 }) (va_Pc [.ref qb, .int (nI k)] (cfPre D (cfT cJ cB cI cF) [(qb, .inr (0, [.ref qo, .int (nI bc)])), (qo, .inl (cB, 10242, .inl o))] sz)) (va_Qi (fun (r : Int32) (u : Unit) => r = nI z ∧ True) (fun u t => cfPost D ((fun (u : Unit) => [(qb, .inr (0, [.ref qo, .int (nI bc)])), (qo, .inl (cB, 10242, .inl o))]) u) (va_A [(qb, .inr (0, [.ref qo, .int (nI bc)])), (qo, .inl (cB, 10242, .inl o))] sz) t) (va_A [(qb, .inr (0, [.ref qo, .int (nI bc)])), (qo, .inl (cB, 10242, .inl o))] sz)) 0 0 (va_A [(qb, .inr (0, [.ref qo, .int (nI bc)])), (qo, .inl (cB, 10242, .inl o))] sz) := by
  refine met_i (cc := cRu_lengthOf) (maxL := 2) (S := Unit) (D := D) (wO := fun (u : Unit) => [(qb, .inr (0, [.ref qo, .int (nI bc)])), (qo, .inl (cB, 10242, .inl o))]) (by decide) (Nat.le_of_ble_eq_true rfl) ?_
  intro p e s m below meth c hx hb hml hown hts hlocks hin hWd A hA hsz hP hK hD hS Q hret ls hl
  have hown : s.vm.findClass "ColumnForms$Runs" = some m.cls := hown
  have hl : lv_has ls 2 [(0, .ref qb), (1, .int (nI k))] := hl
  have hP : va_P D vwCl [(qb, .inr (0, [.ref qo, .int (nI bc)])), (qo, .inl (cB, 10242, .inl o))] s.heap := hP
  refine lv_aload_n hx hb dRu_lengthOf_0 rfl (lv_at hl 0 rfl) ?_
  refine lv_bipush (v := nI 16) hx hb dRu_lengthOf_1 (by decide) ?_
  refine lv_bipush (v := nI 80) hx hb dRu_lengthOf_3 (by decide) ?_
  refine lv_iload_n hx hb dRu_lengthOf_5 rfl (lv_at hl 1 rfl) ?_
  refine lv_imul hx hb dRu_lengthOf_6 ?_
  refine tp_i (show ((nI 80) * (nI k)) = (nI (80 * k)) from pk_mul _ _) ?_
  refine lv_iadd hx hb dRu_lengthOf_7 ?_
  refine tp_i (show ((nI 16) + (nI (80 * k))) = (nI (16 + (80 * k))) from nI_add _ _) ?_
  refine lv_bipush (v := nI 64) hx hb dRu_lengthOf_8 (by decide) ?_
  refine lv_iadd hx hb dRu_lengthOf_10 ?_
  refine tp_i (show ((nI (16 + (80 * k))) + (nI 64)) = (nI ((16 + (80 * k)) + 64)) from nI_add _ _) ?_
  refine lv_bipush (v := nI 16) hx hb dRu_lengthOf_11 (by decide) ?_
  refine kc_l (wc := [(qb, .inr (0, [.ref qo, .int (nI bc)])), (qo, .inl (cB, 10242, .inl o))]) (wr := []) hP hD hS hA [0, 1] [] rfl rfl (by decide) (by decide) (by decide) (fun hPc hDc => va_runV (As := [.int (nI ((16 + (80 * k)) + 64)), .int (nI 16)]) (rest := []) ⟨hx, hb, hml, hown, hts⟩ (c_bitsAt l D cJ cB cI cF qb qo bc o B ((16 + (80 * k)) + 64) 16 (lN z) _ (hc) (hbm) (by omega) (by omega) (hf) (lN_small (Nat.lt_of_le_of_lt hz (by decide)) (by omega))) (cwV 2 hts (wsG_k tw_486 (wsG_k tw_465 (wsG_k tw_466 (wsG_k tw_3 (wsG_c tw_467))))) rfl rfl rfl (by decide +kernel) ⟨Nat.le_of_ble_eq_true rfl, Nat.le_of_ble_eq_true rfl⟩) ⟨cf_blind, va_recv hK hPc (ci := 0) (q0 := 0) rfl rfl, cf_pre hPc hK hDc hWd⟩ rfl rfl hl.1 rfl (lv_room (Nat.le_of_ble_eq_true rfl)) dRu_lengthOf_13 ⟨Nat.le_of_ble_eq_true rfl, Nat.le_of_ble_eq_true rfl⟩) (fun r u H locs hw hP hD hS => ?_)
  obtain ⟨rfl, -⟩ := hw
  have hP : va_P D vwCl [(qb, .inr (0, [.ref qo, .int (nI bc)])), (qo, .inl (cB, 10242, .inl o))] H := hP
  have hD : va_D A [(qb, .inr (0, [.ref qo, .int (nI bc)])), (qo, .inl (cB, 10242, .inl o))] := hD
  refine lv_l2i hx hb dRu_lengthOf_16 rfl ?_
  refine tp_i (show ((lN z).toInt32) = (nI z) from lN_i _) ?_
  exact hret (nI z) () _ _ _ _ _ _ ⟨rfl, trivial⟩ (hP.sub [0, 1] rfl) (hD.sub [0, 1] (by decide) rfl) hS (Nat.le_of_ble_eq_true rfl) (Nat.le_of_ble_eq_true rfl) dRu_lengthOf_17

set_option maxHeartbeats 4000000 in
set_option maxRecDepth 100000 in
theorem c_ruR (l : Launch) (D : va_G) (cJ cB cI cF : ClassId) (qf : Nat) (qb : Nat) (qo : Nat) (bc : Nat) (o : Nat → Int32) (B : Nat → Bool) (xs : Nat → Int64) (n : Nat) (i : Nat) (sz : Nat) (hc : oB o bc B) (hbm : bc ≤ 81936) (hn : n ≤ 1024) (hL : lR xs n bc B) (hi1 : i < n) : Met l yRu_read (Cond.code yRu_read cRu_read 6 (some .long) :: wsG) ({ frames := 3, cells := 0, slots := 0, locals := 72 }) (va_Pc [.ref qf, .ref qb, .int (nI i)] (cfPre D (cfT cJ cB cI cF) [(qf, .inr (6, [])), (qb, .inr (0, [.ref qo, .int (nI bc)])), (qo, .inl (cB, 10242, .inl o))] sz)) (va_Ql (fun (r : Int64) (u : Unit) => r = xs i ∧ True) (fun u t => cfPost D ((fun (u : Unit) => [(qf, .inr (6, [])), (qb, .inr (0, [.ref qo, .int (nI bc)])), (qo, .inl (cB, 10242, .inl o))]) u) (va_A [(qf, .inr (6, [])), (qb, .inr (0, [.ref qo, .int (nI bc)])), (qo, .inl (cB, 10242, .inl o))] sz) t) (va_A [(qf, .inr (6, [])), (qb, .inr (0, [.ref qo, .int (nI bc)])), (qo, .inl (cB, 10242, .inl o))] sz)) 0 0 (va_A [(qf, .inr (6, [])), (qb, .inr (0, [.ref qo, .int (nI bc)])), (qo, .inl (cB, 10242, .inl o))] sz) := by
  refine met_l (cc := cRu_read) (maxL := 6) (S := Unit) (D := D) (wO := fun (u : Unit) => [(qf, .inr (6, [])), (qb, .inr (0, [.ref qo, .int (nI bc)])), (qo, .inl (cB, 10242, .inl o))]) (by decide) (Nat.le_of_ble_eq_true rfl) ?_
  intro p e s m below meth c hx hb hml hown hts hlocks hin hWd A hA hsz hP hK hD hS Q hret ls hl
  have hown : s.vm.findClass "ColumnForms$Runs" = some m.cls := hown
  have hl : lv_has ls 6 [(0, .ref qf), (1, .ref qb), (2, .int (nI i))] := hl
  have hP : va_P D vwCl [(qf, .inr (6, [])), (qb, .inr (0, [.ref qo, .int (nI bc)])), (qo, .inl (cB, 10242, .inl o))] s.heap := hP
  obtain ⟨sb, q1, q2, q3, q4, q5, q6⟩ := hL
  obtain ⟨k, hk0⟩ : ∃ z, z = rRn xs n := ⟨_, rfl⟩
  rw [← hk0] at q1 q2 q3 q4 q5 q6
  have hkn : k ≤ n := by rw [hk0]; exact rRn_le n
  refine lv_aload_n hx hb dRu_read_0 rfl (lv_at hl 1 rfl) ?_
  refine kc_i (wc := [(qb, .inr (0, [.ref qo, .int (nI bc)])), (qo, .inl (cB, 10242, .inl o))]) (wr := [(qf, .inr (6, []))]) hP hD hS hA [1, 2] [0] rfl rfl (by decide) (by decide) (by decide) (fun hPc hDc => va_runS (As := [.ref qb]) (rest := []) ⟨hx, hb, hml, hown, hts⟩ (c_ruI l D cJ cB cI cF qb qo bc o B k _ (hc) (hbm) (by omega) (q4) (by omega)) (va_cwS 1 hts (wsG_k tw_483 (wsG_k tw_484 (wsG_k tw_8 (wsG_c tw_485)))) rfl rfl rfl (by decide +kernel) ⟨Nat.le_of_ble_eq_true rfl, Nat.le_of_ble_eq_true rfl⟩) ⟨cf_blind, cf_pre hPc hK hDc hWd⟩ rfl rfl hl.1 rfl (lv_room (Nat.le_of_ble_eq_true rfl)) dRu_read_1 ⟨Nat.le_of_ble_eq_true rfl, Nat.le_of_ble_eq_true rfl⟩) (fun r u H locs hw hP hD hS => ?_)
  obtain ⟨rfl, -⟩ := hw
  have hP : va_P D vwCl [(qf, .inr (6, [])), (qb, .inr (0, [.ref qo, .int (nI bc)])), (qo, .inl (cB, 10242, .inl o))] H := hP
  have hD : va_D A [(qf, .inr (6, [])), (qb, .inr (0, [.ref qo, .int (nI bc)])), (qo, .inl (cB, 10242, .inl o))] := hD
  refine lv_istore_n (lv' := [(3, .int (nI k)), (0, .ref qf), (1, .ref qb), (2, .int (nI i))]) hx hb dRu_read_4 rfl hl (by decide) rfl (fun ls hl => ?_)
  refine lv_iconst (v := nI 0) hx hb dRu_read_5 (by decide) ?_
  refine lv_istore (lv' := [(4, .int (nI 0)), (3, .int (nI k)), (0, .ref qf), (1, .ref qb), (2, .int (nI i))]) hx hb dRu_read_6 hl (by decide) rfl (fun ls hl => ?_)
  refine lv_iconst (v := nI 0) hx hb dRu_read_8 (by decide) ?_
  refine lv_istore (lv' := [(5, .int (nI 0)), (4, .int (nI 0)), (3, .int (nI k)), (0, .ref qf), (1, .ref qb), (2, .int (nI i))]) hx hb dRu_read_9 hl (by decide) rfl (fun ls hl => ?_)
  have lp : ∀ (k_lp : Nat) (m_ : Nat) (bh : Nat), (m_ ≤ k) → (bh = sb m_) → (sb m_ ≤ i) → (k - m_ < k_lp) → ∀ (H : Heap) (locs : List Loc) (ls : Array Slot), va_P D vwCl [(qf, .inr (6, [])), (qb, .inr (0, [.ref qo, .int (nI bc)])), (qo, .inl (cB, 10242, .inl o))] H → va_D A [(qf, .inr (6, [])), (qb, .inr (0, [.ref qo, .int (nI bc)])), (qo, .inl (cB, 10242, .inl o))] → va_S A s.heap H locs → lv_has ls 6 [(0, .ref qf), (1, .ref qb), (2, .int (nI i)), (3, .int (nI k)), (4, .int (nI bh)), (5, .int (nI m_))] → W p l e ({ frames := 3, cells := 0, slots := 0, locals := 72 }) s m ([.ref qf, .ref qb, .int (nI i)].toArray) below meth c H locs (0) (0) Q (F0 m 11 ls []) := by
    intro k_lp
    induction k_lp with
    | zero => intro m_ bh g1 g2 g3 hfu; exact absurd hfu (by omega)
    | succ k_lp ih_lp =>
      intro m_ bh g1 g2 g3 hfu H locs ls hP hD hS hl
      refine lv_iload hx hb dRu_read_11 (lv_at hl 5 rfl) ?_
      refine lv_iload_n hx hb dRu_read_13 rfl (lv_at hl 3 rfl) ?_
      refine lv_icmp_ge (tgt := 47) hx hb dRu_read_14 (by decide) (fun c14 => ?_) (fun c14 => ?_)
      · have c14 : k ≤ m_ := (nI_leI (by omega) (by omega)).mp c14
        have e9 : m_ = k := by omega
        rw [e9, q2] at g3
        exact absurd g3 (by omega)
      · have c14 : ¬ k ≤ m_ := fun h => c14 ((nI_leI (by omega) (by omega)).mpr h)
        have hmk : m_ < k := by omega
        have hu1 := q1.2.1 m_ hmk
        have hu2 := rDc_mono q1 (a := m_ + 1) k (by omega) (Nat.le_refl k)
        refine lv_iload hx hb dRu_read_17 (lv_at hl 4 rfl) ?_
        refine lv_aload_n hx hb dRu_read_19 rfl (lv_at hl 1 rfl) ?_
        refine lv_iload hx hb dRu_read_20 (lv_at hl 5 rfl) ?_
        refine kc_i (wc := [(qb, .inr (0, [.ref qo, .int (nI bc)])), (qo, .inl (cB, 10242, .inl o))]) (wr := [(qf, .inr (6, []))]) hP hD hS hA [1, 2] [0] rfl rfl (by decide) (by decide) (by decide) (fun hPc hDc => va_runS (As := [.ref qb, .int (nI m_)]) (rest := [.int (nI bh)]) ⟨hx, hb, hml, hown, hts⟩ (c_ruN l D cJ cB cI cF qb qo bc o B m_ (sb (m_ + 1) - sb m_) _ (hc) (hbm) (by omega) (q6 m_ hmk) (by omega)) (va_cwS 2 hts (wsG_k tw_487 (wsG_k tw_488 (wsG_k tw_8 (wsG_c tw_489)))) rfl rfl rfl (by decide +kernel) ⟨Nat.le_of_ble_eq_true rfl, Nat.le_of_ble_eq_true rfl⟩) ⟨cf_blind, cf_pre hPc hK hDc hWd⟩ rfl rfl hl.1 rfl (lv_room (Nat.le_of_ble_eq_true rfl)) dRu_read_22 ⟨Nat.le_of_ble_eq_true rfl, Nat.le_of_ble_eq_true rfl⟩) (fun r u H locs hw hP hD hS => ?_)
        obtain ⟨rfl, -⟩ := hw
        have hP : va_P D vwCl [(qf, .inr (6, [])), (qb, .inr (0, [.ref qo, .int (nI bc)])), (qo, .inl (cB, 10242, .inl o))] H := hP
        have hD : va_D A [(qf, .inr (6, [])), (qb, .inr (0, [.ref qo, .int (nI bc)])), (qo, .inl (cB, 10242, .inl o))] := hD
        refine lv_iadd hx hb dRu_read_25 ?_
        refine tp_i (show ((nI bh) + (nI (sb (m_ + 1) - sb m_))) = (nI (bh + (sb (m_ + 1) - sb m_))) from nI_add _ _) ?_
        refine lv_istore (lv' := [(4, .int (nI (bh + (sb (m_ + 1) - sb m_)))), (0, .ref qf), (1, .ref qb), (2, .int (nI i)), (3, .int (nI k)), (5, .int (nI m_))]) hx hb dRu_read_26 hl (by decide) rfl (fun ls hl => ?_)
        refine lv_iload_n hx hb dRu_read_28 rfl (lv_at hl 3 rfl) ?_
        refine lv_iload hx hb dRu_read_29 (lv_at hl 0 rfl) ?_
        refine lv_icmp_ge (tgt := 41) hx hb dRu_read_31 (by decide) (fun c31 => ?_) (fun c31 => ?_)
        · have c31 : (bh + (sb (m_ + 1) - sb m_)) ≤ i := (nI_leI (by omega) (by omega)).mp c31
          refine lv_iinc (v := nI (m_ + 1)) (lv' := [(5, .int (nI (m_ + 1))), (4, .int (nI (bh + (sb (m_ + 1) - sb m_)))), (0, .ref qf), (1, .ref qb), (2, .int (nI i)), (3, .int (nI k))]) hx hb dRu_read_41 hl (k := 5) rfl (by rw [show (Int32.ofInt 1) = nI 1 from by decide]; exact nI_add _ _) (by decide) rfl (fun ls hl => ?_)
          refine lv_goto (tgt := 11) hx hb dRu_read_44 (by decide) ?_
          exact ih_lp (m_ + 1) (bh + (sb (m_ + 1) - sb m_)) (by omega) (by omega) (by omega) (by omega) _ _ _ (hP.sub [0, 1, 2] rfl) (hD.sub [0, 1, 2] (by decide) rfl) hS (lv_sub hl [2, 3, 4, 5, 1, 0] rfl)
        · have c31 : ¬ (bh + (sb (m_ + 1) - sb m_)) ≤ i := fun h => c31 ((nI_leI (by omega) (by omega)).mpr h)
          refine lv_aload_n hx hb dRu_read_34 rfl (lv_at hl 2 rfl) ?_
          refine lv_iload hx hb dRu_read_35 (lv_at hl 5 rfl) ?_
          refine kc_l (wc := [(qb, .inr (0, [.ref qo, .int (nI bc)])), (qo, .inl (cB, 10242, .inl o))]) (wr := [(qf, .inr (6, []))]) hP hD hS hA [1, 2] [0] rfl rfl (by decide) (by decide) (by decide) (fun hPc hDc => va_runS (As := [.ref qb, .int (nI m_)]) (rest := []) ⟨hx, hb, hml, hown, hts⟩ (c_ruC l D cJ cB cI cF qb qo bc o B m_ (xs (sb m_)) _ (hc) (hbm) (by omega) (q5 m_ hmk)) (va_cwS 2 hts (wsG_k tw_490 (wsG_k tw_491 (wsG_k tw_8 (wsG_c tw_492)))) rfl rfl rfl (by decide +kernel) ⟨Nat.le_of_ble_eq_true rfl, Nat.le_of_ble_eq_true rfl⟩) ⟨cf_blind, cf_pre hPc hK hDc hWd⟩ rfl rfl hl.1 rfl (lv_room (Nat.le_of_ble_eq_true rfl)) dRu_read_37 ⟨Nat.le_of_ble_eq_true rfl, Nat.le_of_ble_eq_true rfl⟩) (fun r u H locs hw hP hD hS => ?_)
          obtain ⟨rfl, -⟩ := hw
          have hP : va_P D vwCl [(qf, .inr (6, [])), (qb, .inr (0, [.ref qo, .int (nI bc)])), (qo, .inl (cB, 10242, .inl o))] H := hP
          have hD : va_D A [(qf, .inr (6, [])), (qb, .inr (0, [.ref qo, .int (nI bc)])), (qo, .inl (cB, 10242, .inl o))] := hD
          exact hret (xs (sb m_)) () _ _ _ _ _ _ ⟨(q1.2.2.1 m_ hmk i (by omega) (by omega)).symm, trivial⟩ (hP.sub [0, 1, 2] rfl) (hD.sub [0, 1, 2] (by decide) rfl) hS (Nat.le_of_ble_eq_true rfl) (Nat.le_of_ble_eq_true rfl) dRu_read_40
  exact lp (k - 0 + 1) 0 0 (Nat.zero_le k) (q1.1.symm) (by rw [q1.1]; omega) (by omega) _ _ _ (hP.sub [0, 1, 2] rfl) (hD.sub [0, 1, 2] (by decide) rfl) hS (lv_sub hl [3, 4, 5, 2, 1, 0] rfl)

set_option maxHeartbeats 4000000 in
set_option maxRecDepth 100000 in
theorem c_ruA (l : Launch) (D : va_G) (cJ cB cI cF : ClassId) (qf : Nat) (qb : Nat) (qo : Nat) (bc : Nat) (o : Nat → Int32) (B : Nat → Bool) (xs : Nat → Int64) (n : Nat) (qq : Nat) (ht_ : Int32) (tt : Int64) (kd : Nat) (low : Int64) (high : Int64) (sz : Nat) (hc : oB o bc B) (hbm : bc ≤ 81936) (hn : n ≤ 1024) (hn0 : 0 < n) (hL : lR xs n bc B) (hk : kd < 5) : Met l yRu_askAll (Cond.code yRu_askAll cRu_askAll 6 none :: wsG) ({ frames := 3, cells := 0, slots := 0, locals := 72 }) (va_Pc [.ref qf, .ref qb, .int (nI n), .ref qq] (cfPre D (cfT cJ cB cI cF) [(qf, .inr (6, [])), (qb, .inr (0, [.ref qo, .int (nI bc)])), (qo, .inl (cB, 10242, .inl o)), (qq, .inr (4, [.int ht_, .long tt, .int (nI kd), .long low, .long high]))] sz)) (va_Qv (fun (u : Int32 × Int64) => (u.1 = ht_ + nI (nC (qF kd low high) xs n)) ∧ (u.2 = tt + nS (qF kd low high) xs n) ∧ True) (fun u t => cfPost D ((fun (u : Int32 × Int64) => [(qf, .inr (6, [])), (qb, .inr (0, [.ref qo, .int (nI bc)])), (qo, .inl (cB, 10242, .inl o)), (qq, .inr (4, [.int u.1, .long u.2, .int (nI kd), .long low, .long high]))]) u) (va_A [(qf, .inr (6, [])), (qb, .inr (0, [.ref qo, .int (nI bc)])), (qo, .inl (cB, 10242, .inl o)), (qq, .inr (4, [.int ht_, .long tt, .int (nI kd), .long low, .long high]))] sz) t) (va_A [(qf, .inr (6, [])), (qb, .inr (0, [.ref qo, .int (nI bc)])), (qo, .inl (cB, 10242, .inl o)), (qq, .inr (4, [.int ht_, .long tt, .int (nI kd), .long low, .long high]))] sz)) 0 0 (va_A [(qf, .inr (6, [])), (qb, .inr (0, [.ref qo, .int (nI bc)])), (qo, .inl (cB, 10242, .inl o)), (qq, .inr (4, [.int ht_, .long tt, .int (nI kd), .long low, .long high]))] sz) := by
  refine met_v (cc := cRu_askAll) (maxL := 6) (S := Int32 × Int64) (D := D) (wO := fun (u : Int32 × Int64) => [(qf, .inr (6, [])), (qb, .inr (0, [.ref qo, .int (nI bc)])), (qo, .inl (cB, 10242, .inl o)), (qq, .inr (4, [.int u.1, .long u.2, .int (nI kd), .long low, .long high]))]) (by decide) (Nat.le_of_ble_eq_true rfl) ?_
  intro p e s m below meth c hx hb hml hown hts hlocks hin hWd A hA hsz hP hK hD hS Q hret ls hl
  have hown : s.vm.findClass "ColumnForms$Runs" = some m.cls := hown
  have hl : lv_has ls 6 [(0, .ref qf), (1, .ref qb), (2, .int (nI n)), (3, .ref qq)] := hl
  have hP : va_P D vwCl [(qf, .inr (6, [])), (qb, .inr (0, [.ref qo, .int (nI bc)])), (qo, .inl (cB, 10242, .inl o)), (qq, .inr (4, [.int ht_, .long tt, .int (nI kd), .long low, .long high]))] s.heap := hP
  obtain ⟨sb, q1, q2, q3, q4, q5, q6⟩ := hL
  obtain ⟨k, hk0⟩ : ∃ z, z = rRn xs n := ⟨_, rfl⟩
  rw [← hk0] at q1 q2 q3 q4 q5 q6
  have hkn : k ≤ n := by rw [hk0]; exact rRn_le n
  refine lv_aload_n hx hb dRu_askAll_0 rfl (lv_at hl 1 rfl) ?_
  refine kc_i (wc := [(qb, .inr (0, [.ref qo, .int (nI bc)])), (qo, .inl (cB, 10242, .inl o))]) (wr := [(qf, .inr (6, [])), (qq, .inr (4, [.int ht_, .long tt, .int (nI kd), .long low, .long high]))]) hP hD hS hA [1, 2] [0, 3] rfl rfl (by decide) (by decide) (by decide) (fun hPc hDc => va_runS (As := [.ref qb]) (rest := []) ⟨hx, hb, hml, hown, hts⟩ (c_ruI l D cJ cB cI cF qb qo bc o B k _ (hc) (hbm) (by omega) (q4) (by omega)) (va_cwS 1 hts (wsG_k tw_483 (wsG_k tw_484 (wsG_k tw_8 (wsG_c tw_485)))) rfl rfl rfl (by decide +kernel) ⟨Nat.le_of_ble_eq_true rfl, Nat.le_of_ble_eq_true rfl⟩) ⟨cf_blind, cf_pre hPc hK hDc hWd⟩ rfl rfl hl.1 rfl (lv_room (Nat.le_of_ble_eq_true rfl)) dRu_askAll_1 ⟨Nat.le_of_ble_eq_true rfl, Nat.le_of_ble_eq_true rfl⟩) (fun r u H locs hw hP hD hS => ?_)
  obtain ⟨rfl, -⟩ := hw
  have hP : va_P D vwCl [(qf, .inr (6, [])), (qq, .inr (4, [.int ht_, .long tt, .int (nI kd), .long low, .long high])), (qb, .inr (0, [.ref qo, .int (nI bc)])), (qo, .inl (cB, 10242, .inl o))] H := hP
  have hD : va_D A [(qf, .inr (6, [])), (qq, .inr (4, [.int ht_, .long tt, .int (nI kd), .long low, .long high])), (qb, .inr (0, [.ref qo, .int (nI bc)])), (qo, .inl (cB, 10242, .inl o))] := hD
  refine lv_istore (lv' := [(4, .int (nI k)), (0, .ref qf), (1, .ref qb), (2, .int (nI n)), (3, .ref qq)]) hx hb dRu_askAll_4 hl (by decide) rfl (fun ls hl => ?_)
  refine lv_iconst (v := nI 0) hx hb dRu_askAll_6 (by decide) ?_
  refine lv_istore (lv' := [(5, .int (nI 0)), (4, .int (nI k)), (0, .ref qf), (1, .ref qb), (2, .int (nI n)), (3, .ref qq)]) hx hb dRu_askAll_7 hl (by decide) rfl (fun ls hl => ?_)
  have lp : ∀ (k_lp : Nat) (m_ : Nat) (h1 : Int32) (t1 : Int64), (m_ ≤ k) → (h1 = ht_ + nI (nC (qF kd low high) xs (sb m_))) → (t1 = tt + nS (qF kd low high) xs (sb m_)) → (k - m_ < k_lp) → ∀ (H : Heap) (locs : List Loc) (ls : Array Slot), va_P D vwCl [(qf, .inr (6, [])), (qb, .inr (0, [.ref qo, .int (nI bc)])), (qo, .inl (cB, 10242, .inl o)), (qq, .inr (4, [.int h1, .long t1, .int (nI kd), .long low, .long high]))] H → va_D A [(qf, .inr (6, [])), (qb, .inr (0, [.ref qo, .int (nI bc)])), (qo, .inl (cB, 10242, .inl o)), (qq, .inr (4, [.int h1, .long t1, .int (nI kd), .long low, .long high]))] → va_S A s.heap H locs → lv_has ls 6 [(0, .ref qf), (1, .ref qb), (2, .int (nI n)), (3, .ref qq), (4, .int (nI k)), (5, .int (nI m_))] → W p l e ({ frames := 3, cells := 0, slots := 0, locals := 72 }) s m ([.ref qf, .ref qb, .int (nI n), .ref qq].toArray) below meth c H locs (0) (0) Q (F0 m 9 ls []) := by
    intro k_lp
    induction k_lp with
    | zero => intro m_ h1 t1 g1 g2 g3 hfu; exact absurd hfu (by omega)
    | succ k_lp ih_lp =>
      intro m_ h1 t1 g1 g2 g3 hfu H locs ls hP hD hS hl
      refine lv_iload hx hb dRu_askAll_9 (lv_at hl 5 rfl) ?_
      refine lv_iload hx hb dRu_askAll_11 (lv_at hl 4 rfl) ?_
      refine lv_icmp_ge (tgt := 38) hx hb dRu_askAll_13 (by decide) (fun c13 => ?_) (fun c13 => ?_)
      · have c13 : k ≤ m_ := (nI_leI (by omega) (by omega)).mp c13
        exact hret (h1, t1) _ _ _ _ _ _ ⟨by show h1 = _; rw [g2, show m_ = k by omega, q2], by show t1 = _; rw [g3, show m_ = k by omega, q2], trivial⟩ (hP.sub [0, 1, 2, 3] rfl) (hD.sub [0, 1, 2, 3] (by decide) rfl) hS (Nat.le_of_ble_eq_true rfl) (Nat.le_of_ble_eq_true rfl) dRu_askAll_38
      · have c13 : ¬ k ≤ m_ := fun h => c13 ((nI_leI (by omega) (by omega)).mpr h)
        have hmk : m_ < k := by omega
        have hu1 := q1.2.1 m_ hmk
        have hu2 := rDc_mono q1 (a := m_ + 1) k (by omega) (Nat.le_refl k)
        refine lv_aload_n hx hb dRu_askAll_16 rfl (lv_at hl 3 rfl) ?_
        refine lv_aload_n hx hb dRu_askAll_17 rfl (lv_at hl 1 rfl) ?_
        refine lv_iload hx hb dRu_askAll_18 (lv_at hl 5 rfl) ?_
        refine kc_l (wc := [(qb, .inr (0, [.ref qo, .int (nI bc)])), (qo, .inl (cB, 10242, .inl o))]) (wr := [(qf, .inr (6, [])), (qq, .inr (4, [.int h1, .long t1, .int (nI kd), .long low, .long high]))]) hP hD hS hA [1, 2] [0, 3] rfl rfl (by decide) (by decide) (by decide) (fun hPc hDc => va_runS (As := [.ref qb, .int (nI m_)]) (rest := [.ref qq]) ⟨hx, hb, hml, hown, hts⟩ (c_ruC l D cJ cB cI cF qb qo bc o B m_ (xs (sb m_)) _ (hc) (hbm) (by omega) (q5 m_ hmk)) (va_cwS 2 hts (wsG_k tw_490 (wsG_k tw_491 (wsG_k tw_8 (wsG_c tw_492)))) rfl rfl rfl (by decide +kernel) ⟨Nat.le_of_ble_eq_true rfl, Nat.le_of_ble_eq_true rfl⟩) ⟨cf_blind, cf_pre hPc hK hDc hWd⟩ rfl rfl hl.1 rfl (lv_room (Nat.le_of_ble_eq_true rfl)) dRu_askAll_20 ⟨Nat.le_of_ble_eq_true rfl, Nat.le_of_ble_eq_true rfl⟩) (fun r u H locs hw hP hD hS => ?_)
        obtain ⟨rfl, -⟩ := hw
        have hP : va_P D vwCl [(qf, .inr (6, [])), (qq, .inr (4, [.int h1, .long t1, .int (nI kd), .long low, .long high])), (qb, .inr (0, [.ref qo, .int (nI bc)])), (qo, .inl (cB, 10242, .inl o))] H := hP
        have hD : va_D A [(qf, .inr (6, [])), (qq, .inr (4, [.int h1, .long t1, .int (nI kd), .long low, .long high])), (qb, .inr (0, [.ref qo, .int (nI bc)])), (qo, .inl (cB, 10242, .inl o))] := hD
        refine lv_aload_n hx hb dRu_askAll_23 rfl (lv_at hl 1 rfl) ?_
        refine lv_iload hx hb dRu_askAll_24 (lv_at hl 5 rfl) ?_
        refine kc_i (wc := [(qb, .inr (0, [.ref qo, .int (nI bc)])), (qo, .inl (cB, 10242, .inl o))]) (wr := [(qf, .inr (6, [])), (qq, .inr (4, [.int h1, .long t1, .int (nI kd), .long low, .long high]))]) hP hD hS hA [2, 3] [0, 1] rfl rfl (by decide) (by decide) (by decide) (fun hPc hDc => va_runS (As := [.ref qb, .int (nI m_)]) (rest := [.long (xs (sb m_)), .ref qq]) ⟨hx, hb, hml, hown, hts⟩ (c_ruN l D cJ cB cI cF qb qo bc o B m_ (sb (m_ + 1) - sb m_) _ (hc) (hbm) (by omega) (q6 m_ hmk) (by omega)) (va_cwS 2 hts (wsG_k tw_487 (wsG_k tw_488 (wsG_k tw_8 (wsG_c tw_489)))) rfl rfl rfl (by decide +kernel) ⟨Nat.le_of_ble_eq_true rfl, Nat.le_of_ble_eq_true rfl⟩) ⟨cf_blind, cf_pre hPc hK hDc hWd⟩ rfl rfl hl.1 rfl (lv_room (Nat.le_of_ble_eq_true rfl)) dRu_askAll_26 ⟨Nat.le_of_ble_eq_true rfl, Nat.le_of_ble_eq_true rfl⟩) (fun r u H locs hw hP hD hS => ?_)
        obtain ⟨rfl, -⟩ := hw
        have hP : va_P D vwCl [(qf, .inr (6, [])), (qq, .inr (4, [.int h1, .long t1, .int (nI kd), .long low, .long high])), (qb, .inr (0, [.ref qo, .int (nI bc)])), (qo, .inl (cB, 10242, .inl o))] H := hP
        have hD : va_D A [(qf, .inr (6, [])), (qq, .inr (4, [.int h1, .long t1, .int (nI kd), .long low, .long high])), (qb, .inr (0, [.ref qo, .int (nI bc)])), (qo, .inl (cB, 10242, .inl o))] := hD
        refine kc_v (wc := [(qq, .inr (4, [.int h1, .long t1, .int (nI kd), .long low, .long high]))]) (wr := [(qf, .inr (6, [])), (qb, .inr (0, [.ref qo, .int (nI bc)])), (qo, .inl (cB, 10242, .inl o))]) hP hD hS hA [1] [0, 2, 3] rfl rfl (by decide) (by decide) (by decide) (fun hPc hDc => va_runV (As := [.long (xs (sb m_)), .int (nI (sb (m_ + 1) - sb m_))]) (rest := []) ⟨hx, hb, hml, hown, hts⟩ (c_ask l D cJ cB cI cF qq h1 t1 kd low high (xs (sb m_)) (nI (sb (m_ + 1) - sb m_)) _ (hk)) (cwV 2 hts (wsG_k tw_571 (wsG_k tw_552 (wsG_k tw_553 (wsG_k tw_20 (wsG_c tw_554))))) rfl rfl rfl (by decide +kernel) ⟨Nat.le_of_ble_eq_true rfl, Nat.le_of_ble_eq_true rfl⟩) ⟨cf_blind, va_recv hK hPc (ci := 4) (q0 := 0) rfl rfl, cf_pre hPc hK hDc hWd⟩ rfl rfl hl.1 rfl (lv_room (Nat.le_of_ble_eq_true rfl)) dRu_askAll_29 ⟨Nat.le_of_ble_eq_true rfl, Nat.le_of_ble_eq_true rfl⟩) (fun u H locs hw hP hD hS => ?_)
        obtain ⟨h2_1, t2_2⟩ := u
        obtain ⟨a1, a2, -⟩ := hw
        have a1 : h2_1 = h1 + (if qF kd low high (xs (sb m_)) then (nI (sb (m_ + 1) - sb m_)) else 0) := a1
        have a2 : t2_2 = t1 + (if qF kd low high (xs (sb m_)) then (xs (sb m_)) * (nI (sb (m_ + 1) - sb m_)).toInt64 else 0) := a2
        have hP : va_P D vwCl [(qf, .inr (6, [])), (qb, .inr (0, [.ref qo, .int (nI bc)])), (qo, .inl (cB, 10242, .inl o)), (qq, .inr (4, [.int h2_1, .long t2_2, .int (nI kd), .long low, .long high]))] H := hP
        have hD : va_D A [(qf, .inr (6, [])), (qb, .inr (0, [.ref qo, .int (nI bc)])), (qo, .inl (cB, 10242, .inl o)), (qq, .inr (4, [.int h2_1, .long t2_2, .int (nI kd), .long low, .long high]))] := hD
        refine lv_iinc (v := nI (m_ + 1)) (lv' := [(5, .int (nI (m_ + 1))), (0, .ref qf), (1, .ref qb), (2, .int (nI n)), (3, .ref qq), (4, .int (nI k))]) hx hb dRu_askAll_32 hl (k := 5) rfl (by rw [show (Int32.ofInt 1) = nI 1 from by decide]; exact nI_add _ _) (by decide) rfl (fun ls hl => ?_)
        refine lv_goto (tgt := 9) hx hb dRu_askAll_35 (by decide) ?_
        exact ih_lp (m_ + 1) h2_1 t2_2 (by omega) (askR_c q1 hmk g2 a1) (askR_s q1 hmk (by omega) g3 a2) (by omega) _ _ _ (hP.sub [0, 1, 2, 3] rfl) (hD.sub [0, 1, 2, 3] (by decide) rfl) hS (lv_sub hl [1, 2, 3, 4, 5, 0] rfl)
  exact lp (k - 0 + 1) 0 ht_ tt (Nat.zero_le k) (by rw [q1.1]; exact (Int32.add_zero _).symm) (by rw [q1.1]; exact (Int64.add_zero _).symm) (by omega) _ _ _ (hP.sub [0, 2, 3, 1] rfl) (hD.sub [0, 2, 3, 1] (by decide) rfl) hS (lv_sub hl [2, 3, 4, 5, 1, 0] rfl)

