set_option maxHeartbeats 4000000 in
set_option maxRecDepth 100000 in
theorem c_plW (l : Launch) (D : va_G) (cJ cB cI cF : ClassId) (qf : Nat) (qr : Nat) (n : Nat) (d : Nat) (rn : Nat) (lo : Int64) (hi : Int64) (sl : Int64) (sh : Int64) (qc : Nat) (qs : Nat) (sz : Nat) : Met l yPl_weigh (Cond.code yPl_weigh cPl_weigh 2 (some .int) :: wsG) ({ frames := 0, cells := 0, slots := 0, locals := 0 }) (va_Pc [.ref qf, .ref qr] (cfPre D (cfT cJ cB cI cF) [(qf, .inr (3, [])), (qr, .inr (5, [.int (nI n), .int (nI d), .int (nI rn), .long lo, .long hi, .long sl, .long sh, .ref qc, .ref qs]))] sz)) (va_Qi (fun (r : Int32) (u : Unit) => r = nI (8 * n) ∧ True) (fun u t => cfPost D ((fun (u : Unit) => [(qf, .inr (3, [])), (qr, .inr (5, [.int (nI n), .int (nI d), .int (nI rn), .long lo, .long hi, .long sl, .long sh, .ref qc, .ref qs]))]) u) (va_A [(qf, .inr (3, [])), (qr, .inr (5, [.int (nI n), .int (nI d), .int (nI rn), .long lo, .long hi, .long sl, .long sh, .ref qc, .ref qs]))] sz) t) (va_A [(qf, .inr (3, [])), (qr, .inr (5, [.int (nI n), .int (nI d), .int (nI rn), .long lo, .long hi, .long sl, .long sh, .ref qc, .ref qs]))] sz)) 0 0 (va_A [(qf, .inr (3, [])), (qr, .inr (5, [.int (nI n), .int (nI d), .int (nI rn), .long lo, .long hi, .long sl, .long sh, .ref qc, .ref qs]))] sz) := by
  refine met_i (cc := cPl_weigh) (maxL := 2) (S := Unit) (D := D) (wO := fun (u : Unit) => [(qf, .inr (3, [])), (qr, .inr (5, [.int (nI n), .int (nI d), .int (nI rn), .long lo, .long hi, .long sl, .long sh, .ref qc, .ref qs]))]) (by decide) (Nat.le_of_ble_eq_true rfl) ?_
  intro p e s m below meth c hx hb hml hown hts hlocks hin hWd A hA hsz hP hK hD hS Q hret ls hl
  have hown : s.vm.findClass "ColumnForms$Plain" = some m.cls := hown
  have hl : lv_has ls 2 [(0, .ref qf), (1, .ref qr)] := hl
  have hP : va_P D vwCl [(qf, .inr (3, [])), (qr, .inr (5, [.int (nI n), .int (nI d), .int (nI rn), .long lo, .long hi, .long sl, .long sh, .ref qc, .ref qs]))] s.heap := hP
  refine lv_bipush (v := nI 8) hx hb dPl_weigh_0 (by decide) ?_
  refine lv_aload_n hx hb dPl_weigh_2 rfl (lv_at hl 1 rfl) ?_
  refine va_get (D := D) (ci := 5) (v := .int (nI n)) (C := "ColumnForms$Row") (T := TRo) (N := 9) hx hb hts inRo hown hK hP 1 rfl rfl 0 (by decide) (hts _ tw_37) (fun _ h9 => h9) rfl dPl_weigh_3 ?_
  refine lv_imul hx hb dPl_weigh_6 ?_
  refine tp_i (show ((nI 8) * (nI n)) = (nI (8 * n)) from pk_mul _ _) ?_
  exact hret (nI (8 * n)) () _ _ _ _ _ _ ⟨rfl, trivial⟩ (hP.sub [0, 1] rfl) (hD.sub [0, 1] (by decide) rfl) hS (Nat.le_of_ble_eq_true rfl) (Nat.le_of_ble_eq_true rfl) dPl_weigh_7

set_option maxHeartbeats 4000000 in
set_option maxRecDepth 100000 in
theorem c_plL (l : Launch) (D : va_G) (cJ cB cI cF : ClassId) (qf : Nat) (qr : Nat) (n : Nat) (d : Nat) (rn : Nat) (lo : Int64) (hi : Int64) (sl : Int64) (sh : Int64) (qc : Nat) (qs : Nat) (xs : Nat → Int64) (rs : Nat → Int64) (qb : Nat) (qo : Nat) (o : Nat → Int32) (sz : Nat) (hR : rAll xs n d rn lo hi sl sh rs) (hn0 : 0 < n) : Met l yPl_lay (Cond.code yPl_lay cPl_lay 4 none :: wsG) ({ frames := 2, cells := 0, slots := 0, locals := 52 }) (va_Pc [.ref qf, .ref qr, .ref qb] (cfPre D (cfT cJ cB cI cF) [(qf, .inr (3, [])), (qr, .inr (5, [.int (nI n), .int (nI d), .int (nI rn), .long lo, .long hi, .long sl, .long sh, .ref qc, .ref qs])), (qc, .inl (cJ, 1024, .inr (.inl xs))), (qb, .inr (0, [.ref qo, .int (nI 0)])), (qo, .inl (cB, 10242, .inl o))] sz)) (va_Qv (fun (u : Nat × (Nat → Int32) × (Nat → Bool)) => (oB u.2.1 u.1 u.2.2) ∧ (lP xs n u.1 u.2.2) ∧ (u.1 ≤ 81936) ∧ True) (fun u t => cfPost D ((fun (u : Nat × (Nat → Int32) × (Nat → Bool)) => [(qf, .inr (3, [])), (qr, .inr (5, [.int (nI n), .int (nI d), .int (nI rn), .long lo, .long hi, .long sl, .long sh, .ref qc, .ref qs])), (qc, .inl (cJ, 1024, .inr (.inl xs))), (qb, .inr (0, [.ref qo, .int (nI u.1)])), (qo, .inl (cB, 10242, .inl u.2.1))]) u) (va_A [(qf, .inr (3, [])), (qr, .inr (5, [.int (nI n), .int (nI d), .int (nI rn), .long lo, .long hi, .long sl, .long sh, .ref qc, .ref qs])), (qc, .inl (cJ, 1024, .inr (.inl xs))), (qb, .inr (0, [.ref qo, .int (nI 0)])), (qo, .inl (cB, 10242, .inl o))] sz) t) (va_A [(qf, .inr (3, [])), (qr, .inr (5, [.int (nI n), .int (nI d), .int (nI rn), .long lo, .long hi, .long sl, .long sh, .ref qc, .ref qs])), (qc, .inl (cJ, 1024, .inr (.inl xs))), (qb, .inr (0, [.ref qo, .int (nI 0)])), (qo, .inl (cB, 10242, .inl o))] sz)) 0 0 (va_A [(qf, .inr (3, [])), (qr, .inr (5, [.int (nI n), .int (nI d), .int (nI rn), .long lo, .long hi, .long sl, .long sh, .ref qc, .ref qs])), (qc, .inl (cJ, 1024, .inr (.inl xs))), (qb, .inr (0, [.ref qo, .int (nI 0)])), (qo, .inl (cB, 10242, .inl o))] sz) := by
  refine met_v (cc := cPl_lay) (maxL := 4) (S := Nat × (Nat → Int32) × (Nat → Bool)) (D := D) (wO := fun (u : Nat × (Nat → Int32) × (Nat → Bool)) => [(qf, .inr (3, [])), (qr, .inr (5, [.int (nI n), .int (nI d), .int (nI rn), .long lo, .long hi, .long sl, .long sh, .ref qc, .ref qs])), (qc, .inl (cJ, 1024, .inr (.inl xs))), (qb, .inr (0, [.ref qo, .int (nI u.1)])), (qo, .inl (cB, 10242, .inl u.2.1))]) (by decide) (Nat.le_of_ble_eq_true rfl) ?_
  intro p e s m below meth c hx hb hml hown hts hlocks hin hWd A hA hsz hP hK hD hS Q hret ls hl
  have hown : s.vm.findClass "ColumnForms$Plain" = some m.cls := hown
  have hl : lv_has ls 4 [(0, .ref qf), (1, .ref qr), (2, .ref qb)] := hl
  have hP : va_P D vwCl [(qf, .inr (3, [])), (qr, .inr (5, [.int (nI n), .int (nI d), .int (nI rn), .long lo, .long hi, .long sl, .long sh, .ref qc, .ref qs])), (qc, .inl (cJ, 1024, .inr (.inl xs))), (qb, .inr (0, [.ref qo, .int (nI 0)])), (qo, .inl (cB, 10242, .inl o))] s.heap := hP
  have hn := hR.1
  refine lv_iconst (v := nI 0) hx hb dPl_lay_0 (by decide) ?_
  refine lv_istore_n (lv' := [(3, .int (nI 0)), (0, .ref qf), (1, .ref qr), (2, .ref qb)]) hx hb dPl_lay_1 rfl hl (by decide) rfl (fun ls hl => ?_)
  have lp : ∀ (k_lp : Nat) (i : Nat) (bq : Nat) (o1 : Nat → Int32) (B1 : Nat → Bool), (i ≤ n) → (bq = 64 * i) → (oB o1 bq B1) → (∀ j, j < i → fld B1 (64 * j) 64 (xs j)) → (n - i < k_lp) → ∀ (H : Heap) (locs : List Loc) (ls : Array Slot), va_P D vwCl [(qf, .inr (3, [])), (qr, .inr (5, [.int (nI n), .int (nI d), .int (nI rn), .long lo, .long hi, .long sl, .long sh, .ref qc, .ref qs])), (qc, .inl (cJ, 1024, .inr (.inl xs))), (qb, .inr (0, [.ref qo, .int (nI bq)])), (qo, .inl (cB, 10242, .inl o1))] H → va_D A [(qf, .inr (3, [])), (qr, .inr (5, [.int (nI n), .int (nI d), .int (nI rn), .long lo, .long hi, .long sl, .long sh, .ref qc, .ref qs])), (qc, .inl (cJ, 1024, .inr (.inl xs))), (qb, .inr (0, [.ref qo, .int (nI bq)])), (qo, .inl (cB, 10242, .inl o1))] → va_S A s.heap H locs → lv_has ls 4 [(0, .ref qf), (1, .ref qr), (2, .ref qb), (3, .int (nI i))] → W p l e ({ frames := 2, cells := 0, slots := 0, locals := 52 }) s m ([.ref qf, .ref qr, .ref qb].toArray) below meth c H locs (0) (0) Q (F0 m 2 ls []) := by
    intro k_lp
    induction k_lp with
    | zero => intro i bq o1 B1 g1 g2 g3 g4 hfu; exact absurd hfu (by omega)
    | succ k_lp ih_lp =>
      intro i bq o1 B1 g1 g2 g3 g4 hfu H locs ls hP hD hS hl
      refine lv_iload_n hx hb dPl_lay_2 rfl (lv_at hl 3 rfl) ?_
      refine lv_aload_n hx hb dPl_lay_3 rfl (lv_at hl 1 rfl) ?_
      refine va_get (D := D) (ci := 5) (v := .int (nI n)) (C := "ColumnForms$Row") (T := TRo) (N := 9) hx hb hts inRo hown hK hP 1 rfl rfl 0 (by decide) (hts _ tw_37) (fun _ h9 => h9) rfl dPl_lay_4 ?_
      refine lv_icmp_ge (tgt := 27) hx hb dPl_lay_7 (by decide) (fun c7 => ?_) (fun c7 => ?_)
      · have c7 : n ≤ i := (nI_leI (by omega) (by omega)).mp c7
        exact hret (bq, o1, B1) _ _ _ _ _ _ ⟨g3, ⟨by show bq = _; omega, fun j hj => g4 j (by omega)⟩, by show bq ≤ _; omega, trivial⟩ (hP.sub [0, 1, 2, 3, 4] rfl) (hD.sub [0, 1, 2, 3, 4] (by decide) rfl) hS (Nat.le_of_ble_eq_true rfl) (Nat.le_of_ble_eq_true rfl) dPl_lay_27
      · have c7 : ¬ n ≤ i := fun h => c7 ((nI_leI (by omega) (by omega)).mpr h)
        refine lv_aload_n hx hb dPl_lay_10 rfl (lv_at hl 2 rfl) ?_
        refine lv_aload_n hx hb dPl_lay_11 rfl (lv_at hl 1 rfl) ?_
        refine lv_iload_n hx hb dPl_lay_12 rfl (lv_at hl 3 rfl) ?_
        refine kc_l (wc := [(qr, .inr (5, [.int (nI n), .int (nI d), .int (nI rn), .long lo, .long hi, .long sl, .long sh, .ref qc, .ref qs])), (qc, .inl (cJ, 1024, .inr (.inl xs)))]) (wr := [(qf, .inr (3, [])), (qb, .inr (0, [.ref qo, .int (nI bq)])), (qo, .inl (cB, 10242, .inl o1))]) hP hD hS hA [1, 2] [0, 3, 4] rfl rfl (by decide) (by decide) (by decide) (fun hPc hDc => va_runV (As := [.int (nI i)]) (rest := [.ref qb]) ⟨hx, hb, hml, hown, hts⟩ (c_at l D cJ cB cI cF qr n d rn lo hi sl sh qc qs xs i _ (by omega) (by omega)) (cwV 1 hts (wsG_k tw_416 (wsG_k tw_257 (wsG_k tw_258 (wsG_k tw_2 (wsG_c tw_259))))) rfl rfl rfl (by decide +kernel) ⟨Nat.le_of_ble_eq_true rfl, Nat.le_of_ble_eq_true rfl⟩) ⟨cf_blind, va_recv hK hPc (ci := 5) (q0 := 0) rfl rfl, cf_pre hPc hK hDc hWd⟩ rfl rfl hl.1 rfl (lv_room (Nat.le_of_ble_eq_true rfl)) dPl_lay_13 ⟨Nat.le_of_ble_eq_true rfl, Nat.le_of_ble_eq_true rfl⟩) (fun r u H locs hw hP hD hS => ?_)
        obtain ⟨rfl, -⟩ := hw
        have hP : va_P D vwCl [(qf, .inr (3, [])), (qb, .inr (0, [.ref qo, .int (nI bq)])), (qo, .inl (cB, 10242, .inl o1)), (qr, .inr (5, [.int (nI n), .int (nI d), .int (nI rn), .long lo, .long hi, .long sl, .long sh, .ref qc, .ref qs])), (qc, .inl (cJ, 1024, .inr (.inl xs)))] H := hP
        have hD : va_D A [(qf, .inr (3, [])), (qb, .inr (0, [.ref qo, .int (nI bq)])), (qo, .inl (cB, 10242, .inl o1)), (qr, .inr (5, [.int (nI n), .int (nI d), .int (nI rn), .long lo, .long hi, .long sl, .long sh, .ref qc, .ref qs])), (qc, .inl (cJ, 1024, .inr (.inl xs)))] := hD
        refine lv_bipush (v := nI 64) hx hb dPl_lay_16 (by decide) ?_
        refine kc_v (wc := [(qb, .inr (0, [.ref qo, .int (nI bq)])), (qo, .inl (cB, 10242, .inl o1))]) (wr := [(qf, .inr (3, [])), (qr, .inr (5, [.int (nI n), .int (nI d), .int (nI rn), .long lo, .long hi, .long sl, .long sh, .ref qc, .ref qs])), (qc, .inl (cJ, 1024, .inr (.inl xs)))]) hP hD hS hA [1, 2] [0, 3, 4] rfl rfl (by decide) (by decide) (by decide) (fun hPc hDc => va_runV (As := [.long (xs i), .int (nI 64)]) (rest := []) ⟨hx, hb, hml, hown, hts⟩ (c_append l D cJ cB cI cF qb qo bq o1 B1 (xs i) 64 _ (g3) (by omega) (by omega)) (cwV 2 hts (wsG_k tw_417 (wsG_k tw_395 (wsG_k tw_396 (wsG_k tw_3 (wsG_c tw_397))))) rfl rfl rfl (by decide +kernel) ⟨Nat.le_of_ble_eq_true rfl, Nat.le_of_ble_eq_true rfl⟩) ⟨cf_blind, va_recv hK hPc (ci := 0) (q0 := 0) rfl rfl, cf_pre hPc hK hDc hWd⟩ rfl rfl hl.1 rfl (lv_room (Nat.le_of_ble_eq_true rfl)) dPl_lay_18 ⟨Nat.le_of_ble_eq_true rfl, Nat.le_of_ble_eq_true rfl⟩) (fun u H locs hw hP hD hS => ?_)
        obtain ⟨o2_1, rfl⟩ : ∃ z, z = u := ⟨u, rfl⟩
        obtain ⟨f9, -⟩ := hw
        have f9 : oB o2_1 (bq + 64) (bA B1 bq (xs i) 64) := f9
        have hP : va_P D vwCl [(qf, .inr (3, [])), (qr, .inr (5, [.int (nI n), .int (nI d), .int (nI rn), .long lo, .long hi, .long sl, .long sh, .ref qc, .ref qs])), (qc, .inl (cJ, 1024, .inr (.inl xs))), (qb, .inr (0, [.ref qo, .int (nI (bq + 64))])), (qo, .inl (cB, 10242, .inl o2_1))] H := hP
        have hD : va_D A [(qf, .inr (3, [])), (qr, .inr (5, [.int (nI n), .int (nI d), .int (nI rn), .long lo, .long hi, .long sl, .long sh, .ref qc, .ref qs])), (qc, .inl (cJ, 1024, .inr (.inl xs))), (qb, .inr (0, [.ref qo, .int (nI (bq + 64))])), (qo, .inl (cB, 10242, .inl o2_1))] := hD
        refine lv_iinc (v := nI (i + 1)) (lv' := [(3, .int (nI (i + 1))), (0, .ref qf), (1, .ref qr), (2, .ref qb)]) hx hb dPl_lay_21 hl (k := 3) rfl (by rw [show (Int32.ofInt 1) = nI 1 from by decide]; exact nI_add _ _) (by decide) rfl (fun ls hl => ?_)
        refine lv_goto (tgt := 2) hx hb dPl_lay_24 (by decide) ?_
        exact ih_lp (i + 1) (bq + 64) o2_1 (bA B1 bq (xs i) 64) (by omega) (by omega) (f9) (fld_add (a := fun j => 64 * j) (wd := fun _ => 64) (vl := xs) g4 (fun j hj => by show 64 * j + 64 ≤ bq; omega) (by show 64 * i = bq; omega) rfl rfl) (by omega) _ _ _ (hP.sub [0, 1, 2, 3, 4] rfl) (hD.sub [0, 1, 2, 3, 4] (by decide) rfl) hS (lv_sub hl [1, 2, 3, 0] rfl)
  exact lp (n - 0 + 1) 0 0 o (fun _ => false) (Nat.zero_le n) (rfl) (oB_0 o _) (fun j hj => absurd hj (by omega)) (by omega) _ _ _ (hP.sub [0, 1, 2, 3, 4] rfl) (hD.sub [0, 1, 2, 3, 4] (by decide) rfl) hS (lv_sub hl [1, 2, 3, 0] rfl)

set_option maxHeartbeats 4000000 in
set_option maxRecDepth 100000 in
theorem c_plR (l : Launch) (D : va_G) (cJ cB cI cF : ClassId) (qf : Nat) (qb : Nat) (qo : Nat) (bc : Nat) (o : Nat → Int32) (B : Nat → Bool) (xs : Nat → Int64) (n : Nat) (i : Nat) (sz : Nat) (hc : oB o bc B) (hbm : bc ≤ 81936) (hn : n ≤ 1024) (hL : lP xs n bc B) (hi1 : i < n) : Met l yPl_read (Cond.code yPl_read cPl_read 3 (some .long) :: wsG) ({ frames := 2, cells := 0, slots := 0, locals := 51 }) (va_Pc [.ref qf, .ref qb, .int (nI i)] (cfPre D (cfT cJ cB cI cF) [(qf, .inr (3, [])), (qb, .inr (0, [.ref qo, .int (nI bc)])), (qo, .inl (cB, 10242, .inl o))] sz)) (va_Ql (fun (r : Int64) (u : Unit) => r = xs i ∧ True) (fun u t => cfPost D ((fun (u : Unit) => [(qf, .inr (3, [])), (qb, .inr (0, [.ref qo, .int (nI bc)])), (qo, .inl (cB, 10242, .inl o))]) u) (va_A [(qf, .inr (3, [])), (qb, .inr (0, [.ref qo, .int (nI bc)])), (qo, .inl (cB, 10242, .inl o))] sz) t) (va_A [(qf, .inr (3, [])), (qb, .inr (0, [.ref qo, .int (nI bc)])), (qo, .inl (cB, 10242, .inl o))] sz)) 0 0 (va_A [(qf, .inr (3, [])), (qb, .inr (0, [.ref qo, .int (nI bc)])), (qo, .inl (cB, 10242, .inl o))] sz) := by
  refine met_l (cc := cPl_read) (maxL := 3) (S := Unit) (D := D) (wO := fun (u : Unit) => [(qf, .inr (3, [])), (qb, .inr (0, [.ref qo, .int (nI bc)])), (qo, .inl (cB, 10242, .inl o))]) (by decide) (Nat.le_of_ble_eq_true rfl) ?_
  intro p e s m below meth c hx hb hml hown hts hlocks hin hWd A hA hsz hP hK hD hS Q hret ls hl
  have hown : s.vm.findClass "ColumnForms$Plain" = some m.cls := hown
  have hl : lv_has ls 3 [(0, .ref qf), (1, .ref qb), (2, .int (nI i))] := hl
  have hP : va_P D vwCl [(qf, .inr (3, [])), (qb, .inr (0, [.ref qo, .int (nI bc)])), (qo, .inl (cB, 10242, .inl o))] s.heap := hP
  have h0 := hL.1
  refine lv_aload_n hx hb dPl_read_0 rfl (lv_at hl 1 rfl) ?_
  refine lv_bipush (v := nI 64) hx hb dPl_read_1 (by decide) ?_
  refine lv_iload_n hx hb dPl_read_3 rfl (lv_at hl 2 rfl) ?_
  refine lv_imul hx hb dPl_read_4 ?_
  refine tp_i (show ((nI 64) * (nI i)) = (nI (64 * i)) from pk_mul _ _) ?_
  refine lv_bipush (v := nI 64) hx hb dPl_read_5 (by decide) ?_
  refine kc_l (wc := [(qb, .inr (0, [.ref qo, .int (nI bc)])), (qo, .inl (cB, 10242, .inl o))]) (wr := [(qf, .inr (3, []))]) hP hD hS hA [1, 2] [0] rfl rfl (by decide) (by decide) (by decide) (fun hPc hDc => va_runV (As := [.int (nI (64 * i)), .int (nI 64)]) (rest := []) ⟨hx, hb, hml, hown, hts⟩ (c_bitsAt l D cJ cB cI cF qb qo bc o B (64 * i) 64 (xs i) _ (hc) (hbm) (by omega) (by omega) (hL.2 i hi1) (bL_64)) (cwV 2 hts (wsG_k tw_479 (wsG_k tw_465 (wsG_k tw_466 (wsG_k tw_3 (wsG_c tw_467))))) rfl rfl rfl (by decide +kernel) ⟨Nat.le_of_ble_eq_true rfl, Nat.le_of_ble_eq_true rfl⟩) ⟨cf_blind, va_recv hK hPc (ci := 0) (q0 := 0) rfl rfl, cf_pre hPc hK hDc hWd⟩ rfl rfl hl.1 rfl (lv_room (Nat.le_of_ble_eq_true rfl)) dPl_read_7 ⟨Nat.le_of_ble_eq_true rfl, Nat.le_of_ble_eq_true rfl⟩) (fun r u H locs hw hP hD hS => ?_)
  obtain ⟨rfl, -⟩ := hw
  have hP : va_P D vwCl [(qf, .inr (3, [])), (qb, .inr (0, [.ref qo, .int (nI bc)])), (qo, .inl (cB, 10242, .inl o))] H := hP
  have hD : va_D A [(qf, .inr (3, [])), (qb, .inr (0, [.ref qo, .int (nI bc)])), (qo, .inl (cB, 10242, .inl o))] := hD
  exact hret (xs i) () _ _ _ _ _ _ ⟨rfl, trivial⟩ (hP.sub [0, 1, 2] rfl) (hD.sub [0, 1, 2] (by decide) rfl) hS (Nat.le_of_ble_eq_true rfl) (Nat.le_of_ble_eq_true rfl) dPl_read_10

set_option maxHeartbeats 4000000 in
set_option maxRecDepth 100000 in
theorem c_plA (l : Launch) (D : va_G) (cJ cB cI cF : ClassId) (qf : Nat) (qb : Nat) (qo : Nat) (bc : Nat) (o : Nat → Int32) (B : Nat → Bool) (xs : Nat → Int64) (n : Nat) (qq : Nat) (ht_ : Int32) (tt : Int64) (kd : Nat) (low : Int64) (high : Int64) (sz : Nat) (hc : oB o bc B) (hbm : bc ≤ 81936) (hn : n ≤ 1024) (hn0 : 0 < n) (hL : lP xs n bc B) (hk : kd < 5) : Met l yPl_askAll (Cond.code yPl_askAll cPl_askAll 5 none :: wsG) ({ frames := 3, cells := 0, slots := 0, locals := 73 }) (va_Pc [.ref qf, .ref qb, .int (nI n), .ref qq] (cfPre D (cfT cJ cB cI cF) [(qf, .inr (3, [])), (qb, .inr (0, [.ref qo, .int (nI bc)])), (qo, .inl (cB, 10242, .inl o)), (qq, .inr (4, [.int ht_, .long tt, .int (nI kd), .long low, .long high]))] sz)) (va_Qv (fun (u : Int32 × Int64) => (u.1 = ht_ + nI (nC (qF kd low high) xs n)) ∧ (u.2 = tt + nS (qF kd low high) xs n) ∧ True) (fun u t => cfPost D ((fun (u : Int32 × Int64) => [(qf, .inr (3, [])), (qb, .inr (0, [.ref qo, .int (nI bc)])), (qo, .inl (cB, 10242, .inl o)), (qq, .inr (4, [.int u.1, .long u.2, .int (nI kd), .long low, .long high]))]) u) (va_A [(qf, .inr (3, [])), (qb, .inr (0, [.ref qo, .int (nI bc)])), (qo, .inl (cB, 10242, .inl o)), (qq, .inr (4, [.int ht_, .long tt, .int (nI kd), .long low, .long high]))] sz) t) (va_A [(qf, .inr (3, [])), (qb, .inr (0, [.ref qo, .int (nI bc)])), (qo, .inl (cB, 10242, .inl o)), (qq, .inr (4, [.int ht_, .long tt, .int (nI kd), .long low, .long high]))] sz)) 0 0 (va_A [(qf, .inr (3, [])), (qb, .inr (0, [.ref qo, .int (nI bc)])), (qo, .inl (cB, 10242, .inl o)), (qq, .inr (4, [.int ht_, .long tt, .int (nI kd), .long low, .long high]))] sz) := by
  refine met_v (cc := cPl_askAll) (maxL := 5) (S := Int32 × Int64) (D := D) (wO := fun (u : Int32 × Int64) => [(qf, .inr (3, [])), (qb, .inr (0, [.ref qo, .int (nI bc)])), (qo, .inl (cB, 10242, .inl o)), (qq, .inr (4, [.int u.1, .long u.2, .int (nI kd), .long low, .long high]))]) (by decide) (Nat.le_of_ble_eq_true rfl) ?_
  intro p e s m below meth c hx hb hml hown hts hlocks hin hWd A hA hsz hP hK hD hS Q hret ls hl
  have hown : s.vm.findClass "ColumnForms$Plain" = some m.cls := hown
  have hl : lv_has ls 5 [(0, .ref qf), (1, .ref qb), (2, .int (nI n)), (3, .ref qq)] := hl
  have hP : va_P D vwCl [(qf, .inr (3, [])), (qb, .inr (0, [.ref qo, .int (nI bc)])), (qo, .inl (cB, 10242, .inl o)), (qq, .inr (4, [.int ht_, .long tt, .int (nI kd), .long low, .long high]))] s.heap := hP
  refine lv_iconst (v := nI 0) hx hb dPl_askAll_0 (by decide) ?_
  refine lv_istore (lv' := [(4, .int (nI 0)), (0, .ref qf), (1, .ref qb), (2, .int (nI n)), (3, .ref qq)]) hx hb dPl_askAll_1 hl (by decide) rfl (fun ls hl => ?_)
  have lp : ∀ (k_lp : Nat) (i : Nat) (h1 : Int32) (t1 : Int64), (i ≤ n) → (h1 = ht_ + nI (nC (qF kd low high) xs i)) → (t1 = tt + nS (qF kd low high) xs i) → (n - i < k_lp) → ∀ (H : Heap) (locs : List Loc) (ls : Array Slot), va_P D vwCl [(qf, .inr (3, [])), (qb, .inr (0, [.ref qo, .int (nI bc)])), (qo, .inl (cB, 10242, .inl o)), (qq, .inr (4, [.int h1, .long t1, .int (nI kd), .long low, .long high]))] H → va_D A [(qf, .inr (3, [])), (qb, .inr (0, [.ref qo, .int (nI bc)])), (qo, .inl (cB, 10242, .inl o)), (qq, .inr (4, [.int h1, .long t1, .int (nI kd), .long low, .long high]))] → va_S A s.heap H locs → lv_has ls 5 [(0, .ref qf), (1, .ref qb), (2, .int (nI n)), (3, .ref qq), (4, .int (nI i))] → W p l e ({ frames := 3, cells := 0, slots := 0, locals := 73 }) s m ([.ref qf, .ref qb, .int (nI n), .ref qq].toArray) below meth c H locs (0) (0) Q (F0 m 3 ls []) := by
    intro k_lp
    induction k_lp with
    | zero => intro i h1 t1 g1 g2 g3 hfu; exact absurd hfu (by omega)
    | succ k_lp ih_lp =>
      intro i h1 t1 g1 g2 g3 hfu H locs ls hP hD hS hl
      refine lv_iload hx hb dPl_askAll_3 (lv_at hl 4 rfl) ?_
      refine lv_iload_n hx hb dPl_askAll_5 rfl (lv_at hl 2 rfl) ?_
      refine lv_icmp_ge (tgt := 27) hx hb dPl_askAll_6 (by decide) (fun c6 => ?_) (fun c6 => ?_)
      · have c6 : n ≤ i := (nI_leI (by omega) (by omega)).mp c6
        exact hret (h1, t1) _ _ _ _ _ _ ⟨by show h1 = _; rw [g2, show i = n by omega], by show t1 = _; rw [g3, show i = n by omega], trivial⟩ (hP.sub [0, 1, 2, 3] rfl) (hD.sub [0, 1, 2, 3] (by decide) rfl) hS (Nat.le_of_ble_eq_true rfl) (Nat.le_of_ble_eq_true rfl) dPl_askAll_27
      · have c6 : ¬ n ≤ i := fun h => c6 ((nI_leI (by omega) (by omega)).mpr h)
        refine lv_aload_n hx hb dPl_askAll_9 rfl (lv_at hl 3 rfl) ?_
        refine lv_aload_n hx hb dPl_askAll_10 rfl (lv_at hl 0 rfl) ?_
        refine lv_aload_n hx hb dPl_askAll_11 rfl (lv_at hl 1 rfl) ?_
        refine lv_iload hx hb dPl_askAll_12 (lv_at hl 4 rfl) ?_
        refine kc_l (wc := [(qf, .inr (3, [])), (qb, .inr (0, [.ref qo, .int (nI bc)])), (qo, .inl (cB, 10242, .inl o))]) (wr := [(qq, .inr (4, [.int h1, .long t1, .int (nI kd), .long low, .long high]))]) hP hD hS hA [0, 1, 2] [3] rfl rfl (by decide) (by decide) (by decide) (fun hPc hDc => va_runV (As := [.ref qb, .int (nI i)]) (rest := [.ref qq]) ⟨hx, hb, hml, hown, hts⟩ (c_plR l D cJ cB cI cF qf qb qo bc o B xs n i _ (hc) (hbm) (hn) (hL) (by omega)) (cwV 2 hts (wsG_k tw_566 (wsG_k tw_477 (wsG_k tw_746 (wsG_k tw_5 (wsG_c tw_478))))) rfl rfl rfl (by decide +kernel) ⟨Nat.le_of_ble_eq_true rfl, Nat.le_of_ble_eq_true rfl⟩) ⟨cf_blind, va_recv hK hPc (ci := 3) (q0 := 0) rfl rfl, cf_pre hPc hK hDc hWd⟩ rfl rfl hl.1 rfl (lv_room (Nat.le_of_ble_eq_true rfl)) dPl_askAll_14 ⟨Nat.le_of_ble_eq_true rfl, Nat.le_of_ble_eq_true rfl⟩) (fun r u H locs hw hP hD hS => ?_)
        obtain ⟨rfl, -⟩ := hw
        have hP : va_P D vwCl [(qq, .inr (4, [.int h1, .long t1, .int (nI kd), .long low, .long high])), (qf, .inr (3, [])), (qb, .inr (0, [.ref qo, .int (nI bc)])), (qo, .inl (cB, 10242, .inl o))] H := hP
        have hD : va_D A [(qq, .inr (4, [.int h1, .long t1, .int (nI kd), .long low, .long high])), (qf, .inr (3, [])), (qb, .inr (0, [.ref qo, .int (nI bc)])), (qo, .inl (cB, 10242, .inl o))] := hD
        refine lv_iconst (v := nI 1) hx hb dPl_askAll_17 (by decide) ?_
        refine kc_v (wc := [(qq, .inr (4, [.int h1, .long t1, .int (nI kd), .long low, .long high]))]) (wr := [(qf, .inr (3, [])), (qb, .inr (0, [.ref qo, .int (nI bc)])), (qo, .inl (cB, 10242, .inl o))]) hP hD hS hA [0] [1, 2, 3] rfl rfl (by decide) (by decide) (by decide) (fun hPc hDc => va_runV (As := [.long (xs i), .int (nI 1)]) (rest := []) ⟨hx, hb, hml, hown, hts⟩ (c_ask l D cJ cB cI cF qq h1 t1 kd low high (xs i) (nI 1) _ (hk)) (cwV 2 hts (wsG_k tw_567 (wsG_k tw_552 (wsG_k tw_553 (wsG_k tw_20 (wsG_c tw_554))))) rfl rfl rfl (by decide +kernel) ⟨Nat.le_of_ble_eq_true rfl, Nat.le_of_ble_eq_true rfl⟩) ⟨cf_blind, va_recv hK hPc (ci := 4) (q0 := 0) rfl rfl, cf_pre hPc hK hDc hWd⟩ rfl rfl hl.1 rfl (lv_room (Nat.le_of_ble_eq_true rfl)) dPl_askAll_18 ⟨Nat.le_of_ble_eq_true rfl, Nat.le_of_ble_eq_true rfl⟩) (fun u H locs hw hP hD hS => ?_)
        obtain ⟨h2_1, t2_2⟩ := u
        obtain ⟨a1, a2, -⟩ := hw
        have a1 : h2_1 = h1 + (if qF kd low high (xs i) then (nI 1) else 0) := a1
        have a2 : t2_2 = t1 + (if qF kd low high (xs i) then (xs i) * (nI 1).toInt64 else 0) := a2
        have hP : va_P D vwCl [(qf, .inr (3, [])), (qb, .inr (0, [.ref qo, .int (nI bc)])), (qo, .inl (cB, 10242, .inl o)), (qq, .inr (4, [.int h2_1, .long t2_2, .int (nI kd), .long low, .long high]))] H := hP
        have hD : va_D A [(qf, .inr (3, [])), (qb, .inr (0, [.ref qo, .int (nI bc)])), (qo, .inl (cB, 10242, .inl o)), (qq, .inr (4, [.int h2_1, .long t2_2, .int (nI kd), .long low, .long high]))] := hD
        refine lv_iinc (v := nI (i + 1)) (lv' := [(4, .int (nI (i + 1))), (0, .ref qf), (1, .ref qb), (2, .int (nI n)), (3, .ref qq)]) hx hb dPl_askAll_21 hl (k := 4) rfl (by rw [show (Int32.ofInt 1) = nI 1 from by decide]; exact nI_add _ _) (by decide) rfl (fun ls hl => ?_)
        refine lv_goto (tgt := 3) hx hb dPl_askAll_24 (by decide) ?_
        exact ih_lp (i + 1) h2_1 t2_2 (by omega) (ask_c g2 a1) (ask_s g3 a2) (by omega) _ _ _ (hP.sub [0, 1, 2, 3] rfl) (hD.sub [0, 1, 2, 3] (by decide) rfl) hS (lv_sub hl [1, 2, 3, 4, 0] rfl)
  exact lp (n - 0 + 1) 0 ht_ tt (Nat.zero_le n) ((Int32.add_zero _).symm) ((Int64.add_zero _).symm) (by omega) _ _ _ (hP.sub [0, 1, 2, 3] rfl) (hD.sub [0, 1, 2, 3] (by decide) rfl) hS (lv_sub hl [1, 2, 3, 4, 0] rfl)

set_option maxHeartbeats 4000000 in
set_option maxRecDepth 100000 in
theorem c_paO (l : Launch) (D : va_G) (cJ cB cI cF : ClassId) (qr : Nat) (n : Nat) (d : Nat) (rn : Nat) (lo : Int64) (hi : Int64) (sl : Int64) (sh : Int64) (qc : Nat) (qs : Nat) (sz : Nat) : Met l yPa_widthOf (Cond.code yPa_widthOf cPa_widthOf 1 (some .int) :: wsG) ({ frames := 3, cells := 0, slots := 0, locals := 64 }) (va_Pc [.ref qr] (cfPre D (cfT cJ cB cI cF) [(qr, .inr (5, [.int (nI n), .int (nI d), .int (nI rn), .long lo, .long hi, .long sl, .long sh, .ref qc, .ref qs]))] sz)) (va_Qi (fun (r : Int32) (u : Unit) => r = nI (bln (uN (hi - lo))) ∧ True) (fun u t => cfPost D ((fun (u : Unit) => [(qr, .inr (5, [.int (nI n), .int (nI d), .int (nI rn), .long lo, .long hi, .long sl, .long sh, .ref qc, .ref qs]))]) u) (va_A [(qr, .inr (5, [.int (nI n), .int (nI d), .int (nI rn), .long lo, .long hi, .long sl, .long sh, .ref qc, .ref qs]))] sz) t) (va_A [(qr, .inr (5, [.int (nI n), .int (nI d), .int (nI rn), .long lo, .long hi, .long sl, .long sh, .ref qc, .ref qs]))] sz)) 0 0 (va_A [(qr, .inr (5, [.int (nI n), .int (nI d), .int (nI rn), .long lo, .long hi, .long sl, .long sh, .ref qc, .ref qs]))] sz) := by
  refine met_i (cc := cPa_widthOf) (maxL := 1) (S := Unit) (D := D) (wO := fun (u : Unit) => [(qr, .inr (5, [.int (nI n), .int (nI d), .int (nI rn), .long lo, .long hi, .long sl, .long sh, .ref qc, .ref qs]))]) (by decide) (Nat.le_of_ble_eq_true rfl) ?_
  intro p e s m below meth c hx hb hml hown hts hlocks hin hWd A hA hsz hP hK hD hS Q hret ls hl
  have hown : s.vm.findClass "ColumnForms$Packed" = some m.cls := hown
  have hl : lv_has ls 1 [(0, .ref qr)] := hl
  have hP : va_P D vwCl [(qr, .inr (5, [.int (nI n), .int (nI d), .int (nI rn), .long lo, .long hi, .long sl, .long sh, .ref qc, .ref qs]))] s.heap := hP
  refine lv_aload_n hx hb dPa_widthOf_0 rfl (lv_at hl 0 rfl) ?_
  refine va_get (D := D) (ci := 5) (v := .long hi) (C := "ColumnForms$Row") (T := TRo) (N := 9) hx hb hts inRo hown hK hP 0 rfl rfl 4 (by decide) (hts _ tw_49) (fun _ h9 => h9) rfl dPa_widthOf_1 ?_
  refine lv_aload_n hx hb dPa_widthOf_4 rfl (lv_at hl 0 rfl) ?_
  refine va_get (D := D) (ci := 5) (v := .long lo) (C := "ColumnForms$Row") (T := TRo) (N := 9) hx hb hts inRo hown hK hP 0 rfl rfl 3 (by decide) (hts _ tw_47) (fun _ h9 => h9) rfl dPa_widthOf_5 ?_
  refine lv_lsub hx hb dPa_widthOf_8 ?_
  refine kc_i (wc := []) (wr := [(qr, .inr (5, [.int (nI n), .int (nI d), .int (nI rn), .long lo, .long hi, .long sl, .long sh, .ref qc, .ref qs]))]) hP hD hS hA [] [0] rfl rfl (by decide) (by decide) (by decide) (fun hPc hDc => va_runSN (As := [.long (hi - lo)]) (rest := []) ⟨hx, hb, hml, hown, hts⟩ (c_bits l D cJ cB cI cF (hi - lo) _) (⟨va_cnB 1 hts (wsG_c tw_337) rfl rfl rfl (hWd.nest 15 rfl) (hts _ tw_1) (by decide +kernel) ⟨Nat.le_of_ble_eq_true rfl, Nat.le_of_ble_eq_true rfl⟩, hts _ tw_336, trivial⟩) ⟨cf_blind, cf_pre hPc hK hDc hWd⟩ rfl rfl hl.1 rfl (lv_room (Nat.le_of_ble_eq_true rfl)) dPa_widthOf_9 ⟨Nat.le_of_ble_eq_true rfl, Nat.le_of_ble_eq_true rfl⟩) (fun r u H locs hw hP hD hS => ?_)
  obtain ⟨rfl, -⟩ := hw
  have hP : va_P D vwCl [(qr, .inr (5, [.int (nI n), .int (nI d), .int (nI rn), .long lo, .long hi, .long sl, .long sh, .ref qc, .ref qs]))] H := hP
  have hD : va_D A [(qr, .inr (5, [.int (nI n), .int (nI d), .int (nI rn), .long lo, .long hi, .long sl, .long sh, .ref qc, .ref qs]))] := hD
  exact hret (nI (bln (uN (hi - lo)))) () _ _ _ _ _ _ ⟨rfl, trivial⟩ (hP.sub [0] rfl) (hD.sub [0] (by decide) rfl) hS (Nat.le_of_ble_eq_true rfl) (Nat.le_of_ble_eq_true rfl) dPa_widthOf_12

set_option maxHeartbeats 4000000 in
set_option maxRecDepth 100000 in
theorem c_paW (l : Launch) (D : va_G) (cJ cB cI cF : ClassId) (qf : Nat) (qr : Nat) (n : Nat) (d : Nat) (rn : Nat) (lo : Int64) (hi : Int64) (sl : Int64) (sh : Int64) (qc : Nat) (qs : Nat) (sz : Nat) (hn : n ≤ 1024) : Met l yPa_weigh (Cond.code yPa_weigh cPa_weigh 2 (some .int) :: wsG) ({ frames := 4, cells := 0, slots := 0, locals := 84 }) (va_Pc [.ref qf, .ref qr] (cfPre D (cfT cJ cB cI cF) [(qf, .inr (2, [])), (qr, .inr (5, [.int (nI n), .int (nI d), .int (nI rn), .long lo, .long hi, .long sl, .long sh, .ref qc, .ref qs]))] sz)) (va_Qi (fun (r : Int32) (u : Unit) => r = nI ((72 + n * bln (uN (hi - lo)) + 7) / 8) ∧ True) (fun u t => cfPost D ((fun (u : Unit) => [(qf, .inr (2, [])), (qr, .inr (5, [.int (nI n), .int (nI d), .int (nI rn), .long lo, .long hi, .long sl, .long sh, .ref qc, .ref qs]))]) u) (va_A [(qf, .inr (2, [])), (qr, .inr (5, [.int (nI n), .int (nI d), .int (nI rn), .long lo, .long hi, .long sl, .long sh, .ref qc, .ref qs]))] sz) t) (va_A [(qf, .inr (2, [])), (qr, .inr (5, [.int (nI n), .int (nI d), .int (nI rn), .long lo, .long hi, .long sl, .long sh, .ref qc, .ref qs]))] sz)) 0 0 (va_A [(qf, .inr (2, [])), (qr, .inr (5, [.int (nI n), .int (nI d), .int (nI rn), .long lo, .long hi, .long sl, .long sh, .ref qc, .ref qs]))] sz) := by
  refine met_i (cc := cPa_weigh) (maxL := 2) (S := Unit) (D := D) (wO := fun (u : Unit) => [(qf, .inr (2, [])), (qr, .inr (5, [.int (nI n), .int (nI d), .int (nI rn), .long lo, .long hi, .long sl, .long sh, .ref qc, .ref qs]))]) (by decide) (Nat.le_of_ble_eq_true rfl) ?_
  intro p e s m below meth c hx hb hml hown hts hlocks hin hWd A hA hsz hP hK hD hS Q hret ls hl
  have hown : s.vm.findClass "ColumnForms$Packed" = some m.cls := hown
  have hl : lv_has ls 2 [(0, .ref qf), (1, .ref qr)] := hl
  have hP : va_P D vwCl [(qf, .inr (2, [])), (qr, .inr (5, [.int (nI n), .int (nI d), .int (nI rn), .long lo, .long hi, .long sl, .long sh, .ref qc, .ref qs]))] s.heap := hP
  have hw2 : n * bln (uN (hi - lo)) ≤ 1024 * 64 := Nat.mul_le_mul hn (bln64 _)
  refine lv_bipush (v := nI 72) hx hb dPa_weigh_0 (by decide) ?_
  refine lv_aload_n hx hb dPa_weigh_2 rfl (lv_at hl 1 rfl) ?_
  refine va_get (D := D) (ci := 5) (v := .int (nI n)) (C := "ColumnForms$Row") (T := TRo) (N := 9) hx hb hts inRo hown hK hP 1 rfl rfl 0 (by decide) (hts _ tw_36) (fun _ h9 => h9) rfl dPa_weigh_3 ?_
  refine lv_aload_n hx hb dPa_weigh_6 rfl (lv_at hl 1 rfl) ?_
  refine kc_i (wc := [(qr, .inr (5, [.int (nI n), .int (nI d), .int (nI rn), .long lo, .long hi, .long sl, .long sh, .ref qc, .ref qs]))]) (wr := [(qf, .inr (2, []))]) hP hD hS hA [1] [0] rfl rfl (by decide) (by decide) (by decide) (fun hPc hDc => va_runS (As := [.ref qr]) (rest := [.int (nI n), .int (nI 72)]) ⟨hx, hb, hml, hown, hts⟩ (c_paO l D cJ cB cI cF qr n d rn lo hi sl sh qc qs _) (va_cwS 1 hts (wsG_k tw_349 (wsG_k tw_350 (wsG_k tw_6 (wsG_c tw_351)))) rfl rfl rfl (by decide +kernel) ⟨Nat.le_of_ble_eq_true rfl, Nat.le_of_ble_eq_true rfl⟩) ⟨cf_blind, cf_pre hPc hK hDc hWd⟩ rfl rfl hl.1 rfl (lv_room (Nat.le_of_ble_eq_true rfl)) dPa_weigh_7 ⟨Nat.le_of_ble_eq_true rfl, Nat.le_of_ble_eq_true rfl⟩) (fun r u H locs hw hP hD hS => ?_)
  obtain ⟨rfl, -⟩ := hw
  have hP : va_P D vwCl [(qf, .inr (2, [])), (qr, .inr (5, [.int (nI n), .int (nI d), .int (nI rn), .long lo, .long hi, .long sl, .long sh, .ref qc, .ref qs]))] H := hP
  have hD : va_D A [(qf, .inr (2, [])), (qr, .inr (5, [.int (nI n), .int (nI d), .int (nI rn), .long lo, .long hi, .long sl, .long sh, .ref qc, .ref qs]))] := hD
  refine lv_imul hx hb dPa_weigh_10 ?_
  refine tp_i (show ((nI n) * (nI (bln (uN (hi - lo))))) = (nI (n * (bln (uN (hi - lo))))) from pk_mul _ _) ?_
  refine lv_iadd hx hb dPa_weigh_11 ?_
  refine tp_i (show ((nI 72) + (nI (n * (bln (uN (hi - lo)))))) = (nI (72 + (n * (bln (uN (hi - lo)))))) from nI_add _ _) ?_
  refine kc_i (wc := []) (wr := [(qf, .inr (2, [])), (qr, .inr (5, [.int (nI n), .int (nI d), .int (nI rn), .long lo, .long hi, .long sl, .long sh, .ref qc, .ref qs]))]) hP hD hS hA [] [0, 1] rfl rfl (by decide) (by decide) (by decide) (fun hPc hDc => va_runSN (As := [.int (nI (72 + (n * (bln (uN (hi - lo))))))]) (rest := []) ⟨hx, hb, hml, hown, hts⟩ (c_whole l D cJ cB cI cF (72 + (n * (bln (uN (hi - lo))))) _ (by omega)) (⟨va_cnB 1 hts (wsG_c tw_173) rfl rfl rfl (hWd.nest 16 rfl) (hts _ tw_1) (by decide +kernel) ⟨Nat.le_of_ble_eq_true rfl, Nat.le_of_ble_eq_true rfl⟩, hts _ tw_172, trivial⟩) ⟨cf_blind, cf_pre hPc hK hDc hWd⟩ rfl rfl hl.1 rfl (lv_room (Nat.le_of_ble_eq_true rfl)) dPa_weigh_12 ⟨Nat.le_of_ble_eq_true rfl, Nat.le_of_ble_eq_true rfl⟩) (fun r u H locs hw hP hD hS => ?_)
  obtain ⟨rfl, -⟩ := hw
  have hP : va_P D vwCl [(qf, .inr (2, [])), (qr, .inr (5, [.int (nI n), .int (nI d), .int (nI rn), .long lo, .long hi, .long sl, .long sh, .ref qc, .ref qs]))] H := hP
  have hD : va_D A [(qf, .inr (2, [])), (qr, .inr (5, [.int (nI n), .int (nI d), .int (nI rn), .long lo, .long hi, .long sl, .long sh, .ref qc, .ref qs]))] := hD
  exact hret (nI (((72 + (n * (bln (uN (hi - lo))))) + 7) / 8)) () _ _ _ _ _ _ ⟨rfl, trivial⟩ (hP.sub [0, 1] rfl) (hD.sub [0, 1] (by decide) rfl) hS (Nat.le_of_ble_eq_true rfl) (Nat.le_of_ble_eq_true rfl) dPa_weigh_15

set_option maxHeartbeats 4000000 in
set_option maxRecDepth 100000 in
theorem c_paL (l : Launch) (D : va_G) (cJ cB cI cF : ClassId) (qf : Nat) (qr : Nat) (n : Nat) (d : Nat) (rn : Nat) (lo : Int64) (hi : Int64) (sl : Int64) (sh : Int64) (qc : Nat) (qs : Nat) (xs : Nat → Int64) (rs : Nat → Int64) (qb : Nat) (qo : Nat) (o : Nat → Int32) (sz : Nat) (hR : rAll xs n d rn lo hi sl sh rs) (hn0 : 0 < n) : Met l yPa_lay (Cond.code yPa_lay cPa_lay 5 none :: wsG) ({ frames := 4, cells := 0, slots := 0, locals := 84 }) (va_Pc [.ref qf, .ref qr, .ref qb] (cfPre D (cfT cJ cB cI cF) [(qf, .inr (2, [])), (qr, .inr (5, [.int (nI n), .int (nI d), .int (nI rn), .long lo, .long hi, .long sl, .long sh, .ref qc, .ref qs])), (qc, .inl (cJ, 1024, .inr (.inl xs))), (qb, .inr (0, [.ref qo, .int (nI 0)])), (qo, .inl (cB, 10242, .inl o))] sz)) (va_Qv (fun (u : Nat × (Nat → Int32) × (Nat → Bool)) => (oB u.2.1 u.1 u.2.2) ∧ (lK xs n u.1 u.2.2) ∧ (u.1 ≤ 81936) ∧ True) (fun u t => cfPost D ((fun (u : Nat × (Nat → Int32) × (Nat → Bool)) => [(qf, .inr (2, [])), (qr, .inr (5, [.int (nI n), .int (nI d), .int (nI rn), .long lo, .long hi, .long sl, .long sh, .ref qc, .ref qs])), (qc, .inl (cJ, 1024, .inr (.inl xs))), (qb, .inr (0, [.ref qo, .int (nI u.1)])), (qo, .inl (cB, 10242, .inl u.2.1))]) u) (va_A [(qf, .inr (2, [])), (qr, .inr (5, [.int (nI n), .int (nI d), .int (nI rn), .long lo, .long hi, .long sl, .long sh, .ref qc, .ref qs])), (qc, .inl (cJ, 1024, .inr (.inl xs))), (qb, .inr (0, [.ref qo, .int (nI 0)])), (qo, .inl (cB, 10242, .inl o))] sz) t) (va_A [(qf, .inr (2, [])), (qr, .inr (5, [.int (nI n), .int (nI d), .int (nI rn), .long lo, .long hi, .long sl, .long sh, .ref qc, .ref qs])), (qc, .inl (cJ, 1024, .inr (.inl xs))), (qb, .inr (0, [.ref qo, .int (nI 0)])), (qo, .inl (cB, 10242, .inl o))] sz)) 0 0 (va_A [(qf, .inr (2, [])), (qr, .inr (5, [.int (nI n), .int (nI d), .int (nI rn), .long lo, .long hi, .long sl, .long sh, .ref qc, .ref qs])), (qc, .inl (cJ, 1024, .inr (.inl xs))), (qb, .inr (0, [.ref qo, .int (nI 0)])), (qo, .inl (cB, 10242, .inl o))] sz) := by
  refine met_v (cc := cPa_lay) (maxL := 5) (S := Nat × (Nat → Int32) × (Nat → Bool)) (D := D) (wO := fun (u : Nat × (Nat → Int32) × (Nat → Bool)) => [(qf, .inr (2, [])), (qr, .inr (5, [.int (nI n), .int (nI d), .int (nI rn), .long lo, .long hi, .long sl, .long sh, .ref qc, .ref qs])), (qc, .inl (cJ, 1024, .inr (.inl xs))), (qb, .inr (0, [.ref qo, .int (nI u.1)])), (qo, .inl (cB, 10242, .inl u.2.1))]) (by decide) (Nat.le_of_ble_eq_true rfl) ?_
  intro p e s m below meth c hx hb hml hown hts hlocks hin hWd A hA hsz hP hK hD hS Q hret ls hl
  have hown : s.vm.findClass "ColumnForms$Packed" = some m.cls := hown
  have hl : lv_has ls 5 [(0, .ref qf), (1, .ref qr), (2, .ref qb)] := hl
  have hP : va_P D vwCl [(qf, .inr (2, [])), (qr, .inr (5, [.int (nI n), .int (nI d), .int (nI rn), .long lo, .long hi, .long sl, .long sh, .ref qc, .ref qs])), (qc, .inl (cJ, 1024, .inr (.inl xs))), (qb, .inr (0, [.ref qo, .int (nI 0)])), (qo, .inl (cB, 10242, .inl o))] s.heap := hP
  have hn := hR.1
  have hR4 := hR.2.2.2 hn0
  refine lv_aload_n hx hb dPa_lay_0 rfl (lv_at hl 1 rfl) ?_
  refine kc_i (wc := [(qr, .inr (5, [.int (nI n), .int (nI d), .int (nI rn), .long lo, .long hi, .long sl, .long sh, .ref qc, .ref qs]))]) (wr := [(qf, .inr (2, [])), (qc, .inl (cJ, 1024, .inr (.inl xs))), (qb, .inr (0, [.ref qo, .int (nI 0)])), (qo, .inl (cB, 10242, .inl o))]) hP hD hS hA [1] [0, 2, 3, 4] rfl rfl (by decide) (by decide) (by decide) (fun hPc hDc => va_runS (As := [.ref qr]) (rest := []) ⟨hx, hb, hml, hown, hts⟩ (c_paO l D cJ cB cI cF qr n d rn lo hi sl sh qc qs _) (va_cwS 1 hts (wsG_k tw_349 (wsG_k tw_350 (wsG_k tw_6 (wsG_c tw_351)))) rfl rfl rfl (by decide +kernel) ⟨Nat.le_of_ble_eq_true rfl, Nat.le_of_ble_eq_true rfl⟩) ⟨cf_blind, cf_pre hPc hK hDc hWd⟩ rfl rfl hl.1 rfl (lv_room (Nat.le_of_ble_eq_true rfl)) dPa_lay_1 ⟨Nat.le_of_ble_eq_true rfl, Nat.le_of_ble_eq_true rfl⟩) (fun r u H locs hw hP hD hS => ?_)
  obtain ⟨rfl, -⟩ := hw
  have hP : va_P D vwCl [(qf, .inr (2, [])), (qc, .inl (cJ, 1024, .inr (.inl xs))), (qb, .inr (0, [.ref qo, .int (nI 0)])), (qo, .inl (cB, 10242, .inl o)), (qr, .inr (5, [.int (nI n), .int (nI d), .int (nI rn), .long lo, .long hi, .long sl, .long sh, .ref qc, .ref qs]))] H := hP
  have hD : va_D A [(qf, .inr (2, [])), (qc, .inl (cJ, 1024, .inr (.inl xs))), (qb, .inr (0, [.ref qo, .int (nI 0)])), (qo, .inl (cB, 10242, .inl o)), (qr, .inr (5, [.int (nI n), .int (nI d), .int (nI rn), .long lo, .long hi, .long sl, .long sh, .ref qc, .ref qs]))] := hD
  obtain ⟨wd, hwd⟩ : ∃ z, z = bln (uN (hi - lo)) := ⟨_, rfl⟩
  have hw1 : wd ≤ 64 := by rw [hwd]; exact bln64 _
  refine tp_i (show (nI (bln (uN (hi - lo)))) = (nI wd) from congrArg nI hwd.symm) ?_
  refine lv_istore_n (lv' := [(3, .int (nI wd)), (0, .ref qf), (1, .ref qr), (2, .ref qb)]) hx hb dPa_lay_4 rfl hl (by decide) rfl (fun ls hl => ?_)
  refine lv_aload_n hx hb dPa_lay_5 rfl (lv_at hl 3 rfl) ?_
  refine lv_aload_n hx hb dPa_lay_6 rfl (lv_at hl 2 rfl) ?_
  refine va_get (D := D) (ci := 5) (v := .long lo) (C := "ColumnForms$Row") (T := TRo) (N := 9) hx hb hts inRo hown hK hP 4 rfl rfl 3 (by decide) (hts _ tw_47) (fun _ h9 => h9) rfl dPa_lay_7 ?_
  refine lv_bipush (v := nI 64) hx hb dPa_lay_10 (by decide) ?_
  refine kc_v (wc := [(qb, .inr (0, [.ref qo, .int (nI 0)])), (qo, .inl (cB, 10242, .inl o))]) (wr := [(qf, .inr (2, [])), (qc, .inl (cJ, 1024, .inr (.inl xs))), (qr, .inr (5, [.int (nI n), .int (nI d), .int (nI rn), .long lo, .long hi, .long sl, .long sh, .ref qc, .ref qs]))]) hP hD hS hA [2, 3] [0, 1, 4] rfl rfl (by decide) (by decide) (by decide) (fun hPc hDc => va_runV (As := [.long lo, .int (nI 64)]) (rest := []) ⟨hx, hb, hml, hown, hts⟩ (c_append l D cJ cB cI cF qb qo 0 o (fun _ => false) lo 64 _ (oB_0 o _) (by omega) (by omega)) (cwV 2 hts (wsG_k tw_411 (wsG_k tw_395 (wsG_k tw_396 (wsG_k tw_3 (wsG_c tw_397))))) rfl rfl rfl (by decide +kernel) ⟨Nat.le_of_ble_eq_true rfl, Nat.le_of_ble_eq_true rfl⟩) ⟨cf_blind, va_recv hK hPc (ci := 0) (q0 := 0) rfl rfl, cf_pre hPc hK hDc hWd⟩ rfl rfl hl.1 rfl (lv_room (Nat.le_of_ble_eq_true rfl)) dPa_lay_12 ⟨Nat.le_of_ble_eq_true rfl, Nat.le_of_ble_eq_true rfl⟩) (fun u H locs hw hP hD hS => ?_)
  obtain ⟨o2_1, rfl⟩ : ∃ z, z = u := ⟨u, rfl⟩
  obtain ⟨e1, -⟩ := hw
  have e1 : oB o2_1 (0 + 64) (bA (fun _ => false) 0 lo 64) := e1
  have hP : va_P D vwCl [(qf, .inr (2, [])), (qc, .inl (cJ, 1024, .inr (.inl xs))), (qr, .inr (5, [.int (nI n), .int (nI d), .int (nI rn), .long lo, .long hi, .long sl, .long sh, .ref qc, .ref qs])), (qb, .inr (0, [.ref qo, .int (nI (0 + 64))])), (qo, .inl (cB, 10242, .inl o2_1))] H := hP
  have hD : va_D A [(qf, .inr (2, [])), (qc, .inl (cJ, 1024, .inr (.inl xs))), (qr, .inr (5, [.int (nI n), .int (nI d), .int (nI rn), .long lo, .long hi, .long sl, .long sh, .ref qc, .ref qs])), (qb, .inr (0, [.ref qo, .int (nI (0 + 64))])), (qo, .inl (cB, 10242, .inl o2_1))] := hD
  refine lv_aload_n hx hb dPa_lay_15 rfl (lv_at hl 3 rfl) ?_
  refine lv_iload_n hx hb dPa_lay_16 rfl (lv_at hl 0 rfl) ?_
  refine lv_i2l hx hb dPa_lay_17 rfl ?_
  refine tp_l (show ((nI wd).toInt64) = (lN wd) from nI_l (by omega)) ?_
  refine lv_bipush (v := nI 8) hx hb dPa_lay_18 (by decide) ?_
  refine kc_v (wc := [(qb, .inr (0, [.ref qo, .int (nI (0 + 64))])), (qo, .inl (cB, 10242, .inl o2_1))]) (wr := [(qf, .inr (2, [])), (qc, .inl (cJ, 1024, .inr (.inl xs))), (qr, .inr (5, [.int (nI n), .int (nI d), .int (nI rn), .long lo, .long hi, .long sl, .long sh, .ref qc, .ref qs]))]) hP hD hS hA [3, 4] [0, 1, 2] rfl rfl (by decide) (by decide) (by decide) (fun hPc hDc => va_runV (As := [.long (lN wd), .int (nI 8)]) (rest := []) ⟨hx, hb, hml, hown, hts⟩ (c_append l D cJ cB cI cF qb qo (0 + 64) o2_1 (bA (fun _ => false) 0 lo 64) (lN wd) 8 _ (e1) (by omega) (by omega)) (cwV 2 hts (wsG_k tw_411 (wsG_k tw_395 (wsG_k tw_396 (wsG_k tw_3 (wsG_c tw_397))))) rfl rfl rfl (by decide +kernel) ⟨Nat.le_of_ble_eq_true rfl, Nat.le_of_ble_eq_true rfl⟩) ⟨cf_blind, va_recv hK hPc (ci := 0) (q0 := 0) rfl rfl, cf_pre hPc hK hDc hWd⟩ rfl rfl hl.1 rfl (lv_room (Nat.le_of_ble_eq_true rfl)) dPa_lay_20 ⟨Nat.le_of_ble_eq_true rfl, Nat.le_of_ble_eq_true rfl⟩) (fun u H locs hw hP hD hS => ?_)
  obtain ⟨o2_2, rfl⟩ : ∃ z, z = u := ⟨u, rfl⟩
  obtain ⟨e2, -⟩ := hw
  have e2 : oB o2_2 ((0 + 64) + 8) (bA (bA (fun _ => false) 0 lo 64) (0 + 64) (lN wd) 8) := e2
  have hP : va_P D vwCl [(qf, .inr (2, [])), (qc, .inl (cJ, 1024, .inr (.inl xs))), (qr, .inr (5, [.int (nI n), .int (nI d), .int (nI rn), .long lo, .long hi, .long sl, .long sh, .ref qc, .ref qs])), (qb, .inr (0, [.ref qo, .int (nI ((0 + 64) + 8))])), (qo, .inl (cB, 10242, .inl o2_2))] H := hP
  have hD : va_D A [(qf, .inr (2, [])), (qc, .inl (cJ, 1024, .inr (.inl xs))), (qr, .inr (5, [.int (nI n), .int (nI d), .int (nI rn), .long lo, .long hi, .long sl, .long sh, .ref qc, .ref qs])), (qb, .inr (0, [.ref qo, .int (nI ((0 + 64) + 8))])), (qo, .inl (cB, 10242, .inl o2_2))] := hD
  refine lv_iconst (v := nI 0) hx hb dPa_lay_23 (by decide) ?_
  refine lv_istore (lv' := [(4, .int (nI 0)), (3, .int (nI wd)), (0, .ref qf), (1, .ref qr), (2, .ref qb)]) hx hb dPa_lay_24 hl (by decide) rfl (fun ls hl => ?_)
  have lp : ∀ (k_lp : Nat) (i : Nat) (bq : Nat) (o1 : Nat → Int32) (B1 : Nat → Bool), (i ≤ n) → (bq = 72 + i * wd) → (oB o1 bq B1) → (fld B1 0 64 lo) → (fld B1 64 8 (lN wd)) → (∀ j, j < i → fld B1 (72 + j * wd) wd (xs j - lo)) → (n - i < k_lp) → ∀ (H : Heap) (locs : List Loc) (ls : Array Slot), va_P D vwCl [(qf, .inr (2, [])), (qr, .inr (5, [.int (nI n), .int (nI d), .int (nI rn), .long lo, .long hi, .long sl, .long sh, .ref qc, .ref qs])), (qc, .inl (cJ, 1024, .inr (.inl xs))), (qb, .inr (0, [.ref qo, .int (nI bq)])), (qo, .inl (cB, 10242, .inl o1))] H → va_D A [(qf, .inr (2, [])), (qr, .inr (5, [.int (nI n), .int (nI d), .int (nI rn), .long lo, .long hi, .long sl, .long sh, .ref qc, .ref qs])), (qc, .inl (cJ, 1024, .inr (.inl xs))), (qb, .inr (0, [.ref qo, .int (nI bq)])), (qo, .inl (cB, 10242, .inl o1))] → va_S A s.heap H locs → lv_has ls 5 [(0, .ref qf), (1, .ref qr), (2, .ref qb), (3, .int (nI wd)), (4, .int (nI i))] → W p l e ({ frames := 4, cells := 0, slots := 0, locals := 84 }) s m ([.ref qf, .ref qr, .ref qb].toArray) below meth c H locs (0) (0) Q (F0 m 26 ls []) := by
    intro k_lp
    induction k_lp with
    | zero => intro i bq o1 B1 g1 g2 g3 g4 g5 g6 hfu; exact absurd hfu (by omega)
    | succ k_lp ih_lp =>
      intro i bq o1 B1 g1 g2 g3 g4 g5 g6 hfu H locs ls hP hD hS hl
      have hm : i * wd ≤ 1024 * 64 := Nat.mul_le_mul (by omega) hw1
      refine lv_iload hx hb dPa_lay_26 (lv_at hl 4 rfl) ?_
      refine lv_aload_n hx hb dPa_lay_28 rfl (lv_at hl 1 rfl) ?_
      refine va_get (D := D) (ci := 5) (v := .int (nI n)) (C := "ColumnForms$Row") (T := TRo) (N := 9) hx hb hts inRo hown hK hP 1 rfl rfl 0 (by decide) (hts _ tw_36) (fun _ h9 => h9) rfl dPa_lay_29 ?_
      refine lv_icmp_ge (tgt := 57) hx hb dPa_lay_32 (by decide) (fun c32 => ?_) (fun c32 => ?_)
      · have c32 : n ≤ i := (nI_leI (by omega) (by omega)).mp c32
        exact hret (bq, o1, B1) _ _ _ _ _ _ ⟨g3, lK_of hR4.1 hR4.2.1 hwd (by have e : i = n := (by omega); rw [← e]; exact g2) g4 g5 (fun j hj => g6 j (by omega)), by show bq ≤ _; omega, trivial⟩ (hP.sub [0, 1, 2, 3, 4] rfl) (hD.sub [0, 1, 2, 3, 4] (by decide) rfl) hS (Nat.le_of_ble_eq_true rfl) (Nat.le_of_ble_eq_true rfl) dPa_lay_57
      · have c32 : ¬ n ≤ i := fun h => c32 ((nI_leI (by omega) (by omega)).mpr h)
        refine lv_aload_n hx hb dPa_lay_35 rfl (lv_at hl 2 rfl) ?_
        refine lv_aload_n hx hb dPa_lay_36 rfl (lv_at hl 1 rfl) ?_
        refine lv_iload hx hb dPa_lay_37 (lv_at hl 4 rfl) ?_
        refine kc_l (wc := [(qr, .inr (5, [.int (nI n), .int (nI d), .int (nI rn), .long lo, .long hi, .long sl, .long sh, .ref qc, .ref qs])), (qc, .inl (cJ, 1024, .inr (.inl xs)))]) (wr := [(qf, .inr (2, [])), (qb, .inr (0, [.ref qo, .int (nI bq)])), (qo, .inl (cB, 10242, .inl o1))]) hP hD hS hA [1, 2] [0, 3, 4] rfl rfl (by decide) (by decide) (by decide) (fun hPc hDc => va_runV (As := [.int (nI i)]) (rest := [.ref qb]) ⟨hx, hb, hml, hown, hts⟩ (c_at l D cJ cB cI cF qr n d rn lo hi sl sh qc qs xs i _ (by omega) (by omega)) (cwV 1 hts (wsG_k tw_412 (wsG_k tw_257 (wsG_k tw_258 (wsG_k tw_2 (wsG_c tw_259))))) rfl rfl rfl (by decide +kernel) ⟨Nat.le_of_ble_eq_true rfl, Nat.le_of_ble_eq_true rfl⟩) ⟨cf_blind, va_recv hK hPc (ci := 5) (q0 := 0) rfl rfl, cf_pre hPc hK hDc hWd⟩ rfl rfl hl.1 rfl (lv_room (Nat.le_of_ble_eq_true rfl)) dPa_lay_39 ⟨Nat.le_of_ble_eq_true rfl, Nat.le_of_ble_eq_true rfl⟩) (fun r u H locs hw hP hD hS => ?_)
        obtain ⟨rfl, -⟩ := hw
        have hP : va_P D vwCl [(qf, .inr (2, [])), (qb, .inr (0, [.ref qo, .int (nI bq)])), (qo, .inl (cB, 10242, .inl o1)), (qr, .inr (5, [.int (nI n), .int (nI d), .int (nI rn), .long lo, .long hi, .long sl, .long sh, .ref qc, .ref qs])), (qc, .inl (cJ, 1024, .inr (.inl xs)))] H := hP
        have hD : va_D A [(qf, .inr (2, [])), (qb, .inr (0, [.ref qo, .int (nI bq)])), (qo, .inl (cB, 10242, .inl o1)), (qr, .inr (5, [.int (nI n), .int (nI d), .int (nI rn), .long lo, .long hi, .long sl, .long sh, .ref qc, .ref qs])), (qc, .inl (cJ, 1024, .inr (.inl xs)))] := hD
        refine lv_aload_n hx hb dPa_lay_42 rfl (lv_at hl 1 rfl) ?_
        refine va_get (D := D) (ci := 5) (v := .long lo) (C := "ColumnForms$Row") (T := TRo) (N := 9) hx hb hts inRo hown hK hP 3 rfl rfl 3 (by decide) (hts _ tw_47) (fun _ h9 => h9) rfl dPa_lay_43 ?_
        refine lv_lsub hx hb dPa_lay_46 ?_
        refine lv_iload_n hx hb dPa_lay_47 rfl (lv_at hl 3 rfl) ?_
        refine kc_v (wc := [(qb, .inr (0, [.ref qo, .int (nI bq)])), (qo, .inl (cB, 10242, .inl o1))]) (wr := [(qf, .inr (2, [])), (qr, .inr (5, [.int (nI n), .int (nI d), .int (nI rn), .long lo, .long hi, .long sl, .long sh, .ref qc, .ref qs])), (qc, .inl (cJ, 1024, .inr (.inl xs)))]) hP hD hS hA [1, 2] [0, 3, 4] rfl rfl (by decide) (by decide) (by decide) (fun hPc hDc => va_runV (As := [.long ((xs i) - lo), .int (nI wd)]) (rest := []) ⟨hx, hb, hml, hown, hts⟩ (c_append l D cJ cB cI cF qb qo bq o1 B1 ((xs i) - lo) wd _ (g3) (hw1) (by omega)) (cwV 2 hts (wsG_k tw_411 (wsG_k tw_395 (wsG_k tw_396 (wsG_k tw_3 (wsG_c tw_397))))) rfl rfl rfl (by decide +kernel) ⟨Nat.le_of_ble_eq_true rfl, Nat.le_of_ble_eq_true rfl⟩) ⟨cf_blind, va_recv hK hPc (ci := 0) (q0 := 0) rfl rfl, cf_pre hPc hK hDc hWd⟩ rfl rfl hl.1 rfl (lv_room (Nat.le_of_ble_eq_true rfl)) dPa_lay_48 ⟨Nat.le_of_ble_eq_true rfl, Nat.le_of_ble_eq_true rfl⟩) (fun u H locs hw hP hD hS => ?_)
        obtain ⟨o2_3, rfl⟩ : ∃ z, z = u := ⟨u, rfl⟩
        obtain ⟨f9, -⟩ := hw
        have f9 : oB o2_3 (bq + wd) (bA B1 bq ((xs i) - lo) wd) := f9
        have hP : va_P D vwCl [(qf, .inr (2, [])), (qr, .inr (5, [.int (nI n), .int (nI d), .int (nI rn), .long lo, .long hi, .long sl, .long sh, .ref qc, .ref qs])), (qc, .inl (cJ, 1024, .inr (.inl xs))), (qb, .inr (0, [.ref qo, .int (nI (bq + wd))])), (qo, .inl (cB, 10242, .inl o2_3))] H := hP
        have hD : va_D A [(qf, .inr (2, [])), (qr, .inr (5, [.int (nI n), .int (nI d), .int (nI rn), .long lo, .long hi, .long sl, .long sh, .ref qc, .ref qs])), (qc, .inl (cJ, 1024, .inr (.inl xs))), (qb, .inr (0, [.ref qo, .int (nI (bq + wd))])), (qo, .inl (cB, 10242, .inl o2_3))] := hD
        refine lv_iinc (v := nI (i + 1)) (lv' := [(4, .int (nI (i + 1))), (0, .ref qf), (1, .ref qr), (2, .ref qb), (3, .int (nI wd))]) hx hb dPa_lay_51 hl (k := 4) rfl (by rw [show (Int32.ofInt 1) = nI 1 from by decide]; exact nI_add _ _) (by decide) rfl (fun ls hl => ?_)
        refine lv_goto (tgt := 26) hx hb dPa_lay_54 (by decide) ?_
        exact ih_lp (i + 1) (bq + wd) o2_3 (bA B1 bq (xs i - lo) wd) (by omega) (by rw [Nat.succ_mul i wd]; omega) (f9) (fld_keep g4 (by omega)) (fld_keep g5 (by omega)) (fld_add (a := fun j => 72 + j * wd) (wd := fun _ => wd) (vl := fun j => xs j - lo) g6 (fun j hj => by have := mul_lo (w := wd) hj; show 72 + j * wd + wd ≤ bq; omega) (by show 72 + i * wd = bq; omega) rfl rfl) (by omega) _ _ _ (hP.sub [0, 1, 2, 3, 4] rfl) (hD.sub [0, 1, 2, 3, 4] (by decide) rfl) hS (lv_sub hl [1, 2, 3, 4, 0] rfl)
  exact lp (n - 0 + 1) 0 ((0 + 64) + 8) o2_2 (bA (bA (fun _ => false) 0 lo 64) (0 + 64) (lN wd) 8) (Nat.zero_le n) (by omega) (e2) (fld_keep (bA_fld _ _ _ _) (by omega)) (bA_fld _ _ _ _) (fun j hj => absurd hj (by omega)) (by omega) _ _ _ (hP.sub [0, 2, 1, 3, 4] rfl) (hD.sub [0, 2, 1, 3, 4] (by decide) rfl) hS (lv_sub hl [2, 3, 4, 1, 0] rfl)

set_option maxHeartbeats 4000000 in
set_option maxRecDepth 100000 in
theorem c_paR (l : Launch) (D : va_G) (cJ cB cI cF : ClassId) (qf : Nat) (qb : Nat) (qo : Nat) (bc : Nat) (o : Nat → Int32) (B : Nat → Bool) (xs : Nat → Int64) (n : Nat) (i : Nat) (sz : Nat) (hc : oB o bc B) (hbm : bc ≤ 81936) (hn : n ≤ 1024) (hL : lK xs n bc B) (hi1 : i < n) : Met l yPa_read (Cond.code yPa_read cPa_read 4 (some .long) :: wsG) ({ frames := 2, cells := 0, slots := 0, locals := 51 }) (va_Pc [.ref qf, .ref qb, .int (nI i)] (cfPre D (cfT cJ cB cI cF) [(qf, .inr (2, [])), (qb, .inr (0, [.ref qo, .int (nI bc)])), (qo, .inl (cB, 10242, .inl o))] sz)) (va_Ql (fun (r : Int64) (u : Unit) => r = xs i ∧ True) (fun u t => cfPost D ((fun (u : Unit) => [(qf, .inr (2, [])), (qb, .inr (0, [.ref qo, .int (nI bc)])), (qo, .inl (cB, 10242, .inl o))]) u) (va_A [(qf, .inr (2, [])), (qb, .inr (0, [.ref qo, .int (nI bc)])), (qo, .inl (cB, 10242, .inl o))] sz) t) (va_A [(qf, .inr (2, [])), (qb, .inr (0, [.ref qo, .int (nI bc)])), (qo, .inl (cB, 10242, .inl o))] sz)) 0 0 (va_A [(qf, .inr (2, [])), (qb, .inr (0, [.ref qo, .int (nI bc)])), (qo, .inl (cB, 10242, .inl o))] sz) := by
  refine met_l (cc := cPa_read) (maxL := 4) (S := Unit) (D := D) (wO := fun (u : Unit) => [(qf, .inr (2, [])), (qb, .inr (0, [.ref qo, .int (nI bc)])), (qo, .inl (cB, 10242, .inl o))]) (by decide) (Nat.le_of_ble_eq_true rfl) ?_
  intro p e s m below meth c hx hb hml hown hts hlocks hin hWd A hA hsz hP hK hD hS Q hret ls hl
  have hown : s.vm.findClass "ColumnForms$Packed" = some m.cls := hown
  have hl : lv_has ls 4 [(0, .ref qf), (1, .ref qb), (2, .int (nI i))] := hl
  have hP : va_P D vwCl [(qf, .inr (2, [])), (qb, .inr (0, [.ref qo, .int (nI bc)])), (qo, .inl (cB, 10242, .inl o))] s.heap := hP
  have k1 := hL.1
  have k2 := hL.2.1
  have k3 := hL.2.2.1
  have k4 := hL.2.2.2
  have hw1 := wP_le xs n
  have hm0 : n * wP xs n ≤ 1024 * 64 := Nat.mul_le_mul hn hw1
  have hm := mul_lo (w := wP xs n) hi1
  refine lv_aload_n hx hb dPa_read_0 rfl (lv_at hl 1 rfl) ?_
  refine lv_bipush (v := nI 64) hx hb dPa_read_1 (by decide) ?_
  refine lv_bipush (v := nI 8) hx hb dPa_read_3 (by decide) ?_
  refine kc_l (wc := [(qb, .inr (0, [.ref qo, .int (nI bc)])), (qo, .inl (cB, 10242, .inl o))]) (wr := [(qf, .inr (2, []))]) hP hD hS hA [1, 2] [0] rfl rfl (by decide) (by decide) (by decide) (fun hPc hDc => va_runV (As := [.int (nI 64), .int (nI 8)]) (rest := []) ⟨hx, hb, hml, hown, hts⟩ (c_bitsAt l D cJ cB cI cF qb qo bc o B 64 8 (lN (wP xs n)) _ (hc) (hbm) (by omega) (by omega) (k3) (lN_small (Nat.lt_of_le_of_lt hw1 (by decide)) (by omega))) (cwV 2 hts (wsG_k tw_475 (wsG_k tw_465 (wsG_k tw_466 (wsG_k tw_3 (wsG_c tw_467))))) rfl rfl rfl (by decide +kernel) ⟨Nat.le_of_ble_eq_true rfl, Nat.le_of_ble_eq_true rfl⟩) ⟨cf_blind, va_recv hK hPc (ci := 0) (q0 := 0) rfl rfl, cf_pre hPc hK hDc hWd⟩ rfl rfl hl.1 rfl (lv_room (Nat.le_of_ble_eq_true rfl)) dPa_read_5 ⟨Nat.le_of_ble_eq_true rfl, Nat.le_of_ble_eq_true rfl⟩) (fun r u H locs hw hP hD hS => ?_)
  obtain ⟨rfl, -⟩ := hw
  have hP : va_P D vwCl [(qf, .inr (2, [])), (qb, .inr (0, [.ref qo, .int (nI bc)])), (qo, .inl (cB, 10242, .inl o))] H := hP
  have hD : va_D A [(qf, .inr (2, [])), (qb, .inr (0, [.ref qo, .int (nI bc)])), (qo, .inl (cB, 10242, .inl o))] := hD
  refine lv_l2i hx hb dPa_read_8 rfl ?_
  refine tp_i (show ((lN (wP xs n)).toInt32) = (nI (wP xs n)) from lN_i _) ?_
  refine lv_istore_n (lv' := [(3, .int (nI (wP xs n))), (0, .ref qf), (1, .ref qb), (2, .int (nI i))]) hx hb dPa_read_9 rfl hl (by decide) rfl (fun ls hl => ?_)
  refine lv_aload_n hx hb dPa_read_10 rfl (lv_at hl 2 rfl) ?_
  refine lv_iconst (v := nI 0) hx hb dPa_read_11 (by decide) ?_
  refine lv_bipush (v := nI 64) hx hb dPa_read_12 (by decide) ?_
  refine kc_l (wc := [(qb, .inr (0, [.ref qo, .int (nI bc)])), (qo, .inl (cB, 10242, .inl o))]) (wr := [(qf, .inr (2, []))]) hP hD hS hA [1, 2] [0] rfl rfl (by decide) (by decide) (by decide) (fun hPc hDc => va_runV (As := [.int (nI 0), .int (nI 64)]) (rest := []) ⟨hx, hb, hml, hown, hts⟩ (c_bitsAt l D cJ cB cI cF qb qo bc o B 0 64 (rLo xs n) _ (hc) (hbm) (by omega) (by omega) (k2) (bL_64)) (cwV 2 hts (wsG_k tw_475 (wsG_k tw_465 (wsG_k tw_466 (wsG_k tw_3 (wsG_c tw_467))))) rfl rfl rfl (by decide +kernel) ⟨Nat.le_of_ble_eq_true rfl, Nat.le_of_ble_eq_true rfl⟩) ⟨cf_blind, va_recv hK hPc (ci := 0) (q0 := 0) rfl rfl, cf_pre hPc hK hDc hWd⟩ rfl rfl hl.1 rfl (lv_room (Nat.le_of_ble_eq_true rfl)) dPa_read_14 ⟨Nat.le_of_ble_eq_true rfl, Nat.le_of_ble_eq_true rfl⟩) (fun r u H locs hw hP hD hS => ?_)
  obtain ⟨rfl, -⟩ := hw
  have hP : va_P D vwCl [(qf, .inr (2, [])), (qb, .inr (0, [.ref qo, .int (nI bc)])), (qo, .inl (cB, 10242, .inl o))] H := hP
  have hD : va_D A [(qf, .inr (2, [])), (qb, .inr (0, [.ref qo, .int (nI bc)])), (qo, .inl (cB, 10242, .inl o))] := hD
  refine lv_aload_n hx hb dPa_read_17 rfl (lv_at hl 2 rfl) ?_
  refine lv_bipush (v := nI 72) hx hb dPa_read_18 (by decide) ?_
  refine lv_iload_n hx hb dPa_read_20 rfl (lv_at hl 3 rfl) ?_
  refine lv_iload_n hx hb dPa_read_21 rfl (lv_at hl 0 rfl) ?_
  refine lv_imul hx hb dPa_read_22 ?_
  refine tp_i (show ((nI i) * (nI (wP xs n))) = (nI (i * (wP xs n))) from pk_mul _ _) ?_
  refine lv_iadd hx hb dPa_read_23 ?_
  refine tp_i (show ((nI 72) + (nI (i * (wP xs n)))) = (nI (72 + (i * (wP xs n)))) from nI_add _ _) ?_
  refine lv_iload_n hx hb dPa_read_24 rfl (lv_at hl 0 rfl) ?_
  refine kc_l (wc := [(qb, .inr (0, [.ref qo, .int (nI bc)])), (qo, .inl (cB, 10242, .inl o))]) (wr := [(qf, .inr (2, []))]) hP hD hS hA [1, 2] [0] rfl rfl (by decide) (by decide) (by decide) (fun hPc hDc => va_runV (As := [.int (nI (72 + (i * (wP xs n)))), .int (nI (wP xs n))]) (rest := [.long (rLo xs n)]) ⟨hx, hb, hml, hown, hts⟩ (c_bitsAt l D cJ cB cI cF qb qo bc o B (72 + (i * (wP xs n))) (wP xs n) (xs i - rLo xs n) _ (hc) (hbm) (hw1) (by omega) (k4 i hi1) (bL_small (wP_fits hi1))) (cwV 2 hts (wsG_k tw_475 (wsG_k tw_465 (wsG_k tw_466 (wsG_k tw_3 (wsG_c tw_467))))) rfl rfl rfl (by decide +kernel) ⟨Nat.le_of_ble_eq_true rfl, Nat.le_of_ble_eq_true rfl⟩) ⟨cf_blind, va_recv hK hPc (ci := 0) (q0 := 0) rfl rfl, cf_pre hPc hK hDc hWd⟩ rfl rfl hl.1 rfl (lv_room (Nat.le_of_ble_eq_true rfl)) dPa_read_25 ⟨Nat.le_of_ble_eq_true rfl, Nat.le_of_ble_eq_true rfl⟩) (fun r u H locs hw hP hD hS => ?_)
  obtain ⟨rfl, -⟩ := hw
  have hP : va_P D vwCl [(qf, .inr (2, [])), (qb, .inr (0, [.ref qo, .int (nI bc)])), (qo, .inl (cB, 10242, .inl o))] H := hP
  have hD : va_D A [(qf, .inr (2, [])), (qb, .inr (0, [.ref qo, .int (nI bc)])), (qo, .inl (cB, 10242, .inl o))] := hD
  refine lv_ladd hx hb dPa_read_28 ?_
  refine tp_l (show ((rLo xs n) + (xs i - rLo xs n)) = (xs i) from l_back _ _) ?_
  exact hret (xs i) () _ _ _ _ _ _ ⟨rfl, trivial⟩ (hP.sub [0, 1, 2] rfl) (hD.sub [0, 1, 2] (by decide) rfl) hS (Nat.le_of_ble_eq_true rfl) (Nat.le_of_ble_eq_true rfl) dPa_read_29

set_option maxHeartbeats 4000000 in
set_option maxRecDepth 100000 in
theorem c_paA (l : Launch) (D : va_G) (cJ cB cI cF : ClassId) (qf : Nat) (qb : Nat) (qo : Nat) (bc : Nat) (o : Nat → Int32) (B : Nat → Bool) (xs : Nat → Int64) (n : Nat) (qq : Nat) (ht_ : Int32) (tt : Int64) (kd : Nat) (low : Int64) (high : Int64) (sz : Nat) (hc : oB o bc B) (hbm : bc ≤ 81936) (hn : n ≤ 1024) (hn0 : 0 < n) (hL : lK xs n bc B) (hk : kd < 5) : Met l yPa_askAll (Cond.code yPa_askAll cPa_askAll 8 none :: wsG) ({ frames := 2, cells := 0, slots := 0, locals := 51 }) (va_Pc [.ref qf, .ref qb, .int (nI n), .ref qq] (cfPre D (cfT cJ cB cI cF) [(qf, .inr (2, [])), (qb, .inr (0, [.ref qo, .int (nI bc)])), (qo, .inl (cB, 10242, .inl o)), (qq, .inr (4, [.int ht_, .long tt, .int (nI kd), .long low, .long high]))] sz)) (va_Qv (fun (u : Int32 × Int64) => (u.1 = ht_ + nI (nC (qF kd low high) xs n)) ∧ (u.2 = tt + nS (qF kd low high) xs n) ∧ True) (fun u t => cfPost D ((fun (u : Int32 × Int64) => [(qf, .inr (2, [])), (qb, .inr (0, [.ref qo, .int (nI bc)])), (qo, .inl (cB, 10242, .inl o)), (qq, .inr (4, [.int u.1, .long u.2, .int (nI kd), .long low, .long high]))]) u) (va_A [(qf, .inr (2, [])), (qb, .inr (0, [.ref qo, .int (nI bc)])), (qo, .inl (cB, 10242, .inl o)), (qq, .inr (4, [.int ht_, .long tt, .int (nI kd), .long low, .long high]))] sz) t) (va_A [(qf, .inr (2, [])), (qb, .inr (0, [.ref qo, .int (nI bc)])), (qo, .inl (cB, 10242, .inl o)), (qq, .inr (4, [.int ht_, .long tt, .int (nI kd), .long low, .long high]))] sz)) 0 0 (va_A [(qf, .inr (2, [])), (qb, .inr (0, [.ref qo, .int (nI bc)])), (qo, .inl (cB, 10242, .inl o)), (qq, .inr (4, [.int ht_, .long tt, .int (nI kd), .long low, .long high]))] sz) := by
  refine met_v (cc := cPa_askAll) (maxL := 8) (S := Int32 × Int64) (D := D) (wO := fun (u : Int32 × Int64) => [(qf, .inr (2, [])), (qb, .inr (0, [.ref qo, .int (nI bc)])), (qo, .inl (cB, 10242, .inl o)), (qq, .inr (4, [.int u.1, .long u.2, .int (nI kd), .long low, .long high]))]) (by decide) (Nat.le_of_ble_eq_true rfl) ?_
  intro p e s m below meth c hx hb hml hown hts hlocks hin hWd A hA hsz hP hK hD hS Q hret ls hl
  have hown : s.vm.findClass "ColumnForms$Packed" = some m.cls := hown
  have hl : lv_has ls 8 [(0, .ref qf), (1, .ref qb), (2, .int (nI n)), (3, .ref qq)] := hl
  have hP : va_P D vwCl [(qf, .inr (2, [])), (qb, .inr (0, [.ref qo, .int (nI bc)])), (qo, .inl (cB, 10242, .inl o)), (qq, .inr (4, [.int ht_, .long tt, .int (nI kd), .long low, .long high]))] s.heap := hP
  have k1 := hL.1
  have k2 := hL.2.1
  have k3 := hL.2.2.1
  have k4 := hL.2.2.2
  have hw1 := wP_le xs n
  have hm0 : n * wP xs n ≤ 1024 * 64 := Nat.mul_le_mul hn hw1
  refine lv_aload_n hx hb dPa_askAll_0 rfl (lv_at hl 1 rfl) ?_
  refine lv_iconst (v := nI 0) hx hb dPa_askAll_1 (by decide) ?_
  refine lv_bipush (v := nI 64) hx hb dPa_askAll_2 (by decide) ?_
  refine kc_l (wc := [(qb, .inr (0, [.ref qo, .int (nI bc)])), (qo, .inl (cB, 10242, .inl o))]) (wr := [(qf, .inr (2, [])), (qq, .inr (4, [.int ht_, .long tt, .int (nI kd), .long low, .long high]))]) hP hD hS hA [1, 2] [0, 3] rfl rfl (by decide) (by decide) (by decide) (fun hPc hDc => va_runV (As := [.int (nI 0), .int (nI 64)]) (rest := []) ⟨hx, hb, hml, hown, hts⟩ (c_bitsAt l D cJ cB cI cF qb qo bc o B 0 64 (rLo xs n) _ (hc) (hbm) (by omega) (by omega) (k2) (bL_64)) (cwV 2 hts (wsG_k tw_475 (wsG_k tw_465 (wsG_k tw_466 (wsG_k tw_3 (wsG_c tw_467))))) rfl rfl rfl (by decide +kernel) ⟨Nat.le_of_ble_eq_true rfl, Nat.le_of_ble_eq_true rfl⟩) ⟨cf_blind, va_recv hK hPc (ci := 0) (q0 := 0) rfl rfl, cf_pre hPc hK hDc hWd⟩ rfl rfl hl.1 rfl (lv_room (Nat.le_of_ble_eq_true rfl)) dPa_askAll_4 ⟨Nat.le_of_ble_eq_true rfl, Nat.le_of_ble_eq_true rfl⟩) (fun r u H locs hw hP hD hS => ?_)
  obtain ⟨rfl, -⟩ := hw
  have hP : va_P D vwCl [(qf, .inr (2, [])), (qq, .inr (4, [.int ht_, .long tt, .int (nI kd), .long low, .long high])), (qb, .inr (0, [.ref qo, .int (nI bc)])), (qo, .inl (cB, 10242, .inl o))] H := hP
  have hD : va_D A [(qf, .inr (2, [])), (qq, .inr (4, [.int ht_, .long tt, .int (nI kd), .long low, .long high])), (qb, .inr (0, [.ref qo, .int (nI bc)])), (qo, .inl (cB, 10242, .inl o))] := hD
  refine lv_lstore (lv' := [(4, .long (rLo xs n)), (0, .ref qf), (1, .ref qb), (2, .int (nI n)), (3, .ref qq)]) hx hb dPa_askAll_7 hl (by decide) rfl (fun ls hl => ?_)
  refine lv_aload_n hx hb dPa_askAll_9 rfl (lv_at hl 2 rfl) ?_
  refine lv_bipush (v := nI 64) hx hb dPa_askAll_10 (by decide) ?_
  refine lv_bipush (v := nI 8) hx hb dPa_askAll_12 (by decide) ?_
  refine kc_l (wc := [(qb, .inr (0, [.ref qo, .int (nI bc)])), (qo, .inl (cB, 10242, .inl o))]) (wr := [(qf, .inr (2, [])), (qq, .inr (4, [.int ht_, .long tt, .int (nI kd), .long low, .long high]))]) hP hD hS hA [2, 3] [0, 1] rfl rfl (by decide) (by decide) (by decide) (fun hPc hDc => va_runV (As := [.int (nI 64), .int (nI 8)]) (rest := []) ⟨hx, hb, hml, hown, hts⟩ (c_bitsAt l D cJ cB cI cF qb qo bc o B 64 8 (lN (wP xs n)) _ (hc) (hbm) (by omega) (by omega) (k3) (lN_small (Nat.lt_of_le_of_lt hw1 (by decide)) (by omega))) (cwV 2 hts (wsG_k tw_475 (wsG_k tw_465 (wsG_k tw_466 (wsG_k tw_3 (wsG_c tw_467))))) rfl rfl rfl (by decide +kernel) ⟨Nat.le_of_ble_eq_true rfl, Nat.le_of_ble_eq_true rfl⟩) ⟨cf_blind, va_recv hK hPc (ci := 0) (q0 := 0) rfl rfl, cf_pre hPc hK hDc hWd⟩ rfl rfl hl.1 rfl (lv_room (Nat.le_of_ble_eq_true rfl)) dPa_askAll_14 ⟨Nat.le_of_ble_eq_true rfl, Nat.le_of_ble_eq_true rfl⟩) (fun r u H locs hw hP hD hS => ?_)
  obtain ⟨rfl, -⟩ := hw
  have hP : va_P D vwCl [(qf, .inr (2, [])), (qq, .inr (4, [.int ht_, .long tt, .int (nI kd), .long low, .long high])), (qb, .inr (0, [.ref qo, .int (nI bc)])), (qo, .inl (cB, 10242, .inl o))] H := hP
  have hD : va_D A [(qf, .inr (2, [])), (qq, .inr (4, [.int ht_, .long tt, .int (nI kd), .long low, .long high])), (qb, .inr (0, [.ref qo, .int (nI bc)])), (qo, .inl (cB, 10242, .inl o))] := hD
  refine lv_l2i hx hb dPa_askAll_17 rfl ?_
  refine tp_i (show ((lN (wP xs n)).toInt32) = (nI (wP xs n)) from lN_i _) ?_
  refine lv_istore (lv' := [(6, .int (nI (wP xs n))), (4, .long (rLo xs n)), (0, .ref qf), (1, .ref qb), (2, .int (nI n)), (3, .ref qq)]) hx hb dPa_askAll_18 hl (by decide) rfl (fun ls hl => ?_)
  refine lv_iconst (v := nI 0) hx hb dPa_askAll_20 (by decide) ?_
  refine lv_istore (lv' := [(7, .int (nI 0)), (6, .int (nI (wP xs n))), (4, .long (rLo xs n)), (0, .ref qf), (1, .ref qb), (2, .int (nI n)), (3, .ref qq)]) hx hb dPa_askAll_21 hl (by decide) rfl (fun ls hl => ?_)
  have lp : ∀ (k_lp : Nat) (i : Nat) (h1 : Int32) (t1 : Int64), (i ≤ n) → (h1 = ht_ + nI (nC (qF kd low high) xs i)) → (t1 = tt + nS (qF kd low high) xs i) → (n - i < k_lp) → ∀ (H : Heap) (locs : List Loc) (ls : Array Slot), va_P D vwCl [(qf, .inr (2, [])), (qb, .inr (0, [.ref qo, .int (nI bc)])), (qo, .inl (cB, 10242, .inl o)), (qq, .inr (4, [.int h1, .long t1, .int (nI kd), .long low, .long high]))] H → va_D A [(qf, .inr (2, [])), (qb, .inr (0, [.ref qo, .int (nI bc)])), (qo, .inl (cB, 10242, .inl o)), (qq, .inr (4, [.int h1, .long t1, .int (nI kd), .long low, .long high]))] → va_S A s.heap H locs → lv_has ls 8 [(0, .ref qf), (1, .ref qb), (2, .int (nI n)), (3, .ref qq), (4, .long (rLo xs n)), (6, .int (nI (wP xs n))), (7, .int (nI i))] → W p l e ({ frames := 2, cells := 0, slots := 0, locals := 51 }) s m ([.ref qf, .ref qb, .int (nI n), .ref qq].toArray) below meth c H locs (0) (0) Q (F0 m 23 ls []) := by
    intro k_lp
    induction k_lp with
    | zero => intro i h1 t1 g1 g2 g3 hfu; exact absurd hfu (by omega)
    | succ k_lp ih_lp =>
      intro i h1 t1 g1 g2 g3 hfu H locs ls hP hD hS hl
      refine lv_iload hx hb dPa_askAll_23 (lv_at hl 6 rfl) ?_
      refine lv_iload_n hx hb dPa_askAll_25 rfl (lv_at hl 2 rfl) ?_
      refine lv_icmp_ge (tgt := 57) hx hb dPa_askAll_26 (by decide) (fun c26 => ?_) (fun c26 => ?_)
      · have c26 : n ≤ i := (nI_leI (by omega) (by omega)).mp c26
        exact hret (h1, t1) _ _ _ _ _ _ ⟨by show h1 = _; rw [g2, show i = n by omega], by show t1 = _; rw [g3, show i = n by omega], trivial⟩ (hP.sub [0, 1, 2, 3] rfl) (hD.sub [0, 1, 2, 3] (by decide) rfl) hS (Nat.le_of_ble_eq_true rfl) (Nat.le_of_ble_eq_true rfl) dPa_askAll_57
      · have c26 : ¬ n ≤ i := fun h => c26 ((nI_leI (by omega) (by omega)).mpr h)
        have hil : i < n := by omega
        have hm := mul_lo (w := wP xs n) hil
        refine lv_aload_n hx hb dPa_askAll_29 rfl (lv_at hl 3 rfl) ?_
        refine lv_lload hx hb dPa_askAll_30 (lv_at hl 4 rfl) ?_
        refine lv_aload_n hx hb dPa_askAll_32 rfl (lv_at hl 1 rfl) ?_
        refine lv_bipush (v := nI 72) hx hb dPa_askAll_33 (by decide) ?_
        refine lv_iload hx hb dPa_askAll_35 (lv_at hl 6 rfl) ?_
        refine lv_iload hx hb dPa_askAll_37 (lv_at hl 5 rfl) ?_
        refine lv_imul hx hb dPa_askAll_39 ?_
        refine tp_i (show ((nI i) * (nI (wP xs n))) = (nI (i * (wP xs n))) from pk_mul _ _) ?_
        refine lv_iadd hx hb dPa_askAll_40 ?_
        refine tp_i (show ((nI 72) + (nI (i * (wP xs n)))) = (nI (72 + (i * (wP xs n)))) from nI_add _ _) ?_
        refine lv_iload hx hb dPa_askAll_41 (lv_at hl 5 rfl) ?_
        refine kc_l (wc := [(qb, .inr (0, [.ref qo, .int (nI bc)])), (qo, .inl (cB, 10242, .inl o))]) (wr := [(qf, .inr (2, [])), (qq, .inr (4, [.int h1, .long t1, .int (nI kd), .long low, .long high]))]) hP hD hS hA [1, 2] [0, 3] rfl rfl (by decide) (by decide) (by decide) (fun hPc hDc => va_runV (As := [.int (nI (72 + (i * (wP xs n)))), .int (nI (wP xs n))]) (rest := [.long (rLo xs n), .ref qq]) ⟨hx, hb, hml, hown, hts⟩ (c_bitsAt l D cJ cB cI cF qb qo bc o B (72 + (i * (wP xs n))) (wP xs n) (xs i - rLo xs n) _ (hc) (hbm) (hw1) (by omega) (k4 i hil) (bL_small (wP_fits hil))) (cwV 2 hts (wsG_k tw_475 (wsG_k tw_465 (wsG_k tw_466 (wsG_k tw_3 (wsG_c tw_467))))) rfl rfl rfl (by decide +kernel) ⟨Nat.le_of_ble_eq_true rfl, Nat.le_of_ble_eq_true rfl⟩) ⟨cf_blind, va_recv hK hPc (ci := 0) (q0 := 0) rfl rfl, cf_pre hPc hK hDc hWd⟩ rfl rfl hl.1 rfl (lv_room (Nat.le_of_ble_eq_true rfl)) dPa_askAll_43 ⟨Nat.le_of_ble_eq_true rfl, Nat.le_of_ble_eq_true rfl⟩) (fun r u H locs hw hP hD hS => ?_)
        obtain ⟨rfl, -⟩ := hw
        have hP : va_P D vwCl [(qf, .inr (2, [])), (qq, .inr (4, [.int h1, .long t1, .int (nI kd), .long low, .long high])), (qb, .inr (0, [.ref qo, .int (nI bc)])), (qo, .inl (cB, 10242, .inl o))] H := hP
        have hD : va_D A [(qf, .inr (2, [])), (qq, .inr (4, [.int h1, .long t1, .int (nI kd), .long low, .long high])), (qb, .inr (0, [.ref qo, .int (nI bc)])), (qo, .inl (cB, 10242, .inl o))] := hD
        refine lv_ladd hx hb dPa_askAll_46 ?_
        refine tp_l (show ((rLo xs n) + (xs i - rLo xs n)) = (xs i) from l_back _ _) ?_
        refine lv_iconst (v := nI 1) hx hb dPa_askAll_47 (by decide) ?_
        refine kc_v (wc := [(qq, .inr (4, [.int h1, .long t1, .int (nI kd), .long low, .long high]))]) (wr := [(qf, .inr (2, [])), (qb, .inr (0, [.ref qo, .int (nI bc)])), (qo, .inl (cB, 10242, .inl o))]) hP hD hS hA [1] [0, 2, 3] rfl rfl (by decide) (by decide) (by decide) (fun hPc hDc => va_runV (As := [.long (xs i), .int (nI 1)]) (rest := []) ⟨hx, hb, hml, hown, hts⟩ (c_ask l D cJ cB cI cF qq h1 t1 kd low high (xs i) (nI 1) _ (hk)) (cwV 2 hts (wsG_k tw_562 (wsG_k tw_552 (wsG_k tw_553 (wsG_k tw_20 (wsG_c tw_554))))) rfl rfl rfl (by decide +kernel) ⟨Nat.le_of_ble_eq_true rfl, Nat.le_of_ble_eq_true rfl⟩) ⟨cf_blind, va_recv hK hPc (ci := 4) (q0 := 0) rfl rfl, cf_pre hPc hK hDc hWd⟩ rfl rfl hl.1 rfl (lv_room (Nat.le_of_ble_eq_true rfl)) dPa_askAll_48 ⟨Nat.le_of_ble_eq_true rfl, Nat.le_of_ble_eq_true rfl⟩) (fun u H locs hw hP hD hS => ?_)
        obtain ⟨h2_1, t2_2⟩ := u
        obtain ⟨a1, a2, -⟩ := hw
        have a1 : h2_1 = h1 + (if qF kd low high (xs i) then (nI 1) else 0) := a1
        have a2 : t2_2 = t1 + (if qF kd low high (xs i) then (xs i) * (nI 1).toInt64 else 0) := a2
        have hP : va_P D vwCl [(qf, .inr (2, [])), (qb, .inr (0, [.ref qo, .int (nI bc)])), (qo, .inl (cB, 10242, .inl o)), (qq, .inr (4, [.int h2_1, .long t2_2, .int (nI kd), .long low, .long high]))] H := hP
        have hD : va_D A [(qf, .inr (2, [])), (qb, .inr (0, [.ref qo, .int (nI bc)])), (qo, .inl (cB, 10242, .inl o)), (qq, .inr (4, [.int h2_1, .long t2_2, .int (nI kd), .long low, .long high]))] := hD
        refine lv_iinc (v := nI (i + 1)) (lv' := [(7, .int (nI (i + 1))), (0, .ref qf), (1, .ref qb), (2, .int (nI n)), (3, .ref qq), (4, .long (rLo xs n)), (6, .int (nI (wP xs n)))]) hx hb dPa_askAll_51 hl (k := 6) rfl (by rw [show (Int32.ofInt 1) = nI 1 from by decide]; exact nI_add _ _) (by decide) rfl (fun ls hl => ?_)
        refine lv_goto (tgt := 23) hx hb dPa_askAll_54 (by decide) ?_
        exact ih_lp (i + 1) h2_1 t2_2 (by omega) (ask_c g2 a1) (ask_s g3 a2) (by omega) _ _ _ (hP.sub [0, 1, 2, 3] rfl) (hD.sub [0, 1, 2, 3] (by decide) rfl) hS (lv_sub hl [1, 2, 3, 4, 5, 6, 0] rfl)
  exact lp (n - 0 + 1) 0 ht_ tt (Nat.zero_le n) ((Int32.add_zero _).symm) ((Int64.add_zero _).symm) (by omega) _ _ _ (hP.sub [0, 2, 3, 1] rfl) (hD.sub [0, 2, 3, 1] (by decide) rfl) hS (lv_sub hl [3, 4, 5, 6, 2, 1, 0] rfl)

set_option maxHeartbeats 4000000 in
set_option maxRecDepth 100000 in
theorem c_ssO (l : Launch) (D : va_G) (cJ cB cI cF : ClassId) (qr : Nat) (n : Nat) (d : Nat) (rn : Nat) (lo : Int64) (hi : Int64) (sl : Int64) (sh : Int64) (qc : Nat) (qs : Nat) (sz : Nat) : Met l ySs_widthOf (Cond.code ySs_widthOf cSs_widthOf 1 (some .int) :: wsG) ({ frames := 3, cells := 0, slots := 0, locals := 64 }) (va_Pc [.ref qr] (cfPre D (cfT cJ cB cI cF) [(qr, .inr (5, [.int (nI n), .int (nI d), .int (nI rn), .long lo, .long hi, .long sl, .long sh, .ref qc, .ref qs]))] sz)) (va_Qi (fun (r : Int32) (u : Unit) => r = nI (bln (uN (sh - sl))) ∧ True) (fun u t => cfPost D ((fun (u : Unit) => [(qr, .inr (5, [.int (nI n), .int (nI d), .int (nI rn), .long lo, .long hi, .long sl, .long sh, .ref qc, .ref qs]))]) u) (va_A [(qr, .inr (5, [.int (nI n), .int (nI d), .int (nI rn), .long lo, .long hi, .long sl, .long sh, .ref qc, .ref qs]))] sz) t) (va_A [(qr, .inr (5, [.int (nI n), .int (nI d), .int (nI rn), .long lo, .long hi, .long sl, .long sh, .ref qc, .ref qs]))] sz)) 0 0 (va_A [(qr, .inr (5, [.int (nI n), .int (nI d), .int (nI rn), .long lo, .long hi, .long sl, .long sh, .ref qc, .ref qs]))] sz) := by
  refine met_i (cc := cSs_widthOf) (maxL := 1) (S := Unit) (D := D) (wO := fun (u : Unit) => [(qr, .inr (5, [.int (nI n), .int (nI d), .int (nI rn), .long lo, .long hi, .long sl, .long sh, .ref qc, .ref qs]))]) (by decide) (Nat.le_of_ble_eq_true rfl) ?_
  intro p e s m below meth c hx hb hml hown hts hlocks hin hWd A hA hsz hP hK hD hS Q hret ls hl
  have hown : s.vm.findClass "ColumnForms$Steps" = some m.cls := hown
  have hl : lv_has ls 1 [(0, .ref qr)] := hl
  have hP : va_P D vwCl [(qr, .inr (5, [.int (nI n), .int (nI d), .int (nI rn), .long lo, .long hi, .long sl, .long sh, .ref qc, .ref qs]))] s.heap := hP
  refine lv_aload_n hx hb dSs_widthOf_0 rfl (lv_at hl 0 rfl) ?_
  refine va_get (D := D) (ci := 5) (v := .long sh) (C := "ColumnForms$Row") (T := TRo) (N := 9) hx hb hts inRo hown hK hP 0 rfl rfl 6 (by decide) (hts _ tw_53) (fun _ h9 => h9) rfl dSs_widthOf_1 ?_
  refine lv_aload_n hx hb dSs_widthOf_4 rfl (lv_at hl 0 rfl) ?_
  refine va_get (D := D) (ci := 5) (v := .long sl) (C := "ColumnForms$Row") (T := TRo) (N := 9) hx hb hts inRo hown hK hP 0 rfl rfl 5 (by decide) (hts _ tw_51) (fun _ h9 => h9) rfl dSs_widthOf_5 ?_
  refine lv_lsub hx hb dSs_widthOf_8 ?_
  refine kc_i (wc := []) (wr := [(qr, .inr (5, [.int (nI n), .int (nI d), .int (nI rn), .long lo, .long hi, .long sl, .long sh, .ref qc, .ref qs]))]) hP hD hS hA [] [0] rfl rfl (by decide) (by decide) (by decide) (fun hPc hDc => va_runSN (As := [.long (sh - sl)]) (rest := []) ⟨hx, hb, hml, hown, hts⟩ (c_bits l D cJ cB cI cF (sh - sl) _) (⟨va_cnB 1 hts (wsG_c tw_337) rfl rfl rfl (hWd.nest 18 rfl) (hts _ tw_1) (by decide +kernel) ⟨Nat.le_of_ble_eq_true rfl, Nat.le_of_ble_eq_true rfl⟩, hts _ tw_336, trivial⟩) ⟨cf_blind, cf_pre hPc hK hDc hWd⟩ rfl rfl hl.1 rfl (lv_room (Nat.le_of_ble_eq_true rfl)) dSs_widthOf_9 ⟨Nat.le_of_ble_eq_true rfl, Nat.le_of_ble_eq_true rfl⟩) (fun r u H locs hw hP hD hS => ?_)
  obtain ⟨rfl, -⟩ := hw
  have hP : va_P D vwCl [(qr, .inr (5, [.int (nI n), .int (nI d), .int (nI rn), .long lo, .long hi, .long sl, .long sh, .ref qc, .ref qs]))] H := hP
  have hD : va_D A [(qr, .inr (5, [.int (nI n), .int (nI d), .int (nI rn), .long lo, .long hi, .long sl, .long sh, .ref qc, .ref qs]))] := hD
  exact hret (nI (bln (uN (sh - sl)))) () _ _ _ _ _ _ ⟨rfl, trivial⟩ (hP.sub [0] rfl) (hD.sub [0] (by decide) rfl) hS (Nat.le_of_ble_eq_true rfl) (Nat.le_of_ble_eq_true rfl) dSs_widthOf_12

set_option maxHeartbeats 4000000 in
set_option maxRecDepth 100000 in
theorem c_ssW (l : Launch) (D : va_G) (cJ cB cI cF : ClassId) (qf : Nat) (qr : Nat) (n : Nat) (d : Nat) (rn : Nat) (lo : Int64) (hi : Int64) (sl : Int64) (sh : Int64) (qc : Nat) (qs : Nat) (sz : Nat) (hn : n ≤ 1024) (hn0 : 0 < n) : Met l ySs_weigh (Cond.code ySs_weigh cSs_weigh 2 (some .int) :: wsG) ({ frames := 4, cells := 0, slots := 0, locals := 84 }) (va_Pc [.ref qf, .ref qr] (cfPre D (cfT cJ cB cI cF) [(qf, .inr (7, [])), (qr, .inr (5, [.int (nI n), .int (nI d), .int (nI rn), .long lo, .long hi, .long sl, .long sh, .ref qc, .ref qs]))] sz)) (va_Qi (fun (r : Int32) (u : Unit) => r = nI ((136 + (n - 1) * bln (uN (sh - sl)) + 7) / 8) ∧ True) (fun u t => cfPost D ((fun (u : Unit) => [(qf, .inr (7, [])), (qr, .inr (5, [.int (nI n), .int (nI d), .int (nI rn), .long lo, .long hi, .long sl, .long sh, .ref qc, .ref qs]))]) u) (va_A [(qf, .inr (7, [])), (qr, .inr (5, [.int (nI n), .int (nI d), .int (nI rn), .long lo, .long hi, .long sl, .long sh, .ref qc, .ref qs]))] sz) t) (va_A [(qf, .inr (7, [])), (qr, .inr (5, [.int (nI n), .int (nI d), .int (nI rn), .long lo, .long hi, .long sl, .long sh, .ref qc, .ref qs]))] sz)) 0 0 (va_A [(qf, .inr (7, [])), (qr, .inr (5, [.int (nI n), .int (nI d), .int (nI rn), .long lo, .long hi, .long sl, .long sh, .ref qc, .ref qs]))] sz) := by
  refine met_i (cc := cSs_weigh) (maxL := 2) (S := Unit) (D := D) (wO := fun (u : Unit) => [(qf, .inr (7, [])), (qr, .inr (5, [.int (nI n), .int (nI d), .int (nI rn), .long lo, .long hi, .long sl, .long sh, .ref qc, .ref qs]))]) (by decide) (Nat.le_of_ble_eq_true rfl) ?_
  intro p e s m below meth c hx hb hml hown hts hlocks hin hWd A hA hsz hP hK hD hS Q hret ls hl
  have hown : s.vm.findClass "ColumnForms$Steps" = some m.cls := hown
  have hl : lv_has ls 2 [(0, .ref qf), (1, .ref qr)] := hl
  have hP : va_P D vwCl [(qf, .inr (7, [])), (qr, .inr (5, [.int (nI n), .int (nI d), .int (nI rn), .long lo, .long hi, .long sl, .long sh, .ref qc, .ref qs]))] s.heap := hP
  have hw2 : (n - 1) * bln (uN (sh - sl)) ≤ 1024 * 64 := Nat.mul_le_mul (by omega) (bln64 _)
  refine lv_sipush (v := nI 136) hx hb dSs_weigh_0 (by decide) ?_
  refine lv_aload_n hx hb dSs_weigh_3 rfl (lv_at hl 1 rfl) ?_
  refine va_get (D := D) (ci := 5) (v := .int (nI n)) (C := "ColumnForms$Row") (T := TRo) (N := 9) hx hb hts inRo hown hK hP 1 rfl rfl 0 (by decide) (hts _ tw_39) (fun _ h9 => h9) rfl dSs_weigh_4 ?_
  refine lv_iconst (v := nI 1) hx hb dSs_weigh_7 (by decide) ?_
  refine lv_isub hx hb dSs_weigh_8 ?_
  refine tp_i (show ((nI n) - (nI 1)) = (nI (n - 1)) from pk_sub (by omega)) ?_
  refine lv_aload_n hx hb dSs_weigh_9 rfl (lv_at hl 1 rfl) ?_
  refine kc_i (wc := [(qr, .inr (5, [.int (nI n), .int (nI d), .int (nI rn), .long lo, .long hi, .long sl, .long sh, .ref qc, .ref qs]))]) (wr := [(qf, .inr (7, []))]) hP hD hS hA [1] [0] rfl rfl (by decide) (by decide) (by decide) (fun hPc hDc => va_runS (As := [.ref qr]) (rest := [.int (nI (n - 1)), .int (nI 136)]) ⟨hx, hb, hml, hown, hts⟩ (c_ssO l D cJ cB cI cF qr n d rn lo hi sl sh qc qs _) (va_cwS 1 hts (wsG_k tw_364 (wsG_k tw_365 (wsG_k tw_9 (wsG_c tw_366)))) rfl rfl rfl (by decide +kernel) ⟨Nat.le_of_ble_eq_true rfl, Nat.le_of_ble_eq_true rfl⟩) ⟨cf_blind, cf_pre hPc hK hDc hWd⟩ rfl rfl hl.1 rfl (lv_room (Nat.le_of_ble_eq_true rfl)) dSs_weigh_10 ⟨Nat.le_of_ble_eq_true rfl, Nat.le_of_ble_eq_true rfl⟩) (fun r u H locs hw hP hD hS => ?_)
  obtain ⟨rfl, -⟩ := hw
  have hP : va_P D vwCl [(qf, .inr (7, [])), (qr, .inr (5, [.int (nI n), .int (nI d), .int (nI rn), .long lo, .long hi, .long sl, .long sh, .ref qc, .ref qs]))] H := hP
  have hD : va_D A [(qf, .inr (7, [])), (qr, .inr (5, [.int (nI n), .int (nI d), .int (nI rn), .long lo, .long hi, .long sl, .long sh, .ref qc, .ref qs]))] := hD
  refine lv_imul hx hb dSs_weigh_13 ?_
  refine tp_i (show ((nI (n - 1)) * (nI (bln (uN (sh - sl))))) = (nI ((n - 1) * (bln (uN (sh - sl))))) from pk_mul _ _) ?_
  refine lv_iadd hx hb dSs_weigh_14 ?_
  refine tp_i (show ((nI 136) + (nI ((n - 1) * (bln (uN (sh - sl)))))) = (nI (136 + ((n - 1) * (bln (uN (sh - sl)))))) from nI_add _ _) ?_
  refine kc_i (wc := []) (wr := [(qf, .inr (7, [])), (qr, .inr (5, [.int (nI n), .int (nI d), .int (nI rn), .long lo, .long hi, .long sl, .long sh, .ref qc, .ref qs]))]) hP hD hS hA [] [0, 1] rfl rfl (by decide) (by decide) (by decide) (fun hPc hDc => va_runSN (As := [.int (nI (136 + ((n - 1) * (bln (uN (sh - sl))))))]) (rest := []) ⟨hx, hb, hml, hown, hts⟩ (c_whole l D cJ cB cI cF (136 + ((n - 1) * (bln (uN (sh - sl))))) _ (by omega)) (⟨va_cnB 1 hts (wsG_c tw_173) rfl rfl rfl (hWd.nest 19 rfl) (hts _ tw_1) (by decide +kernel) ⟨Nat.le_of_ble_eq_true rfl, Nat.le_of_ble_eq_true rfl⟩, hts _ tw_172, trivial⟩) ⟨cf_blind, cf_pre hPc hK hDc hWd⟩ rfl rfl hl.1 rfl (lv_room (Nat.le_of_ble_eq_true rfl)) dSs_weigh_15 ⟨Nat.le_of_ble_eq_true rfl, Nat.le_of_ble_eq_true rfl⟩) (fun r u H locs hw hP hD hS => ?_)
  obtain ⟨rfl, -⟩ := hw
  have hP : va_P D vwCl [(qf, .inr (7, [])), (qr, .inr (5, [.int (nI n), .int (nI d), .int (nI rn), .long lo, .long hi, .long sl, .long sh, .ref qc, .ref qs]))] H := hP
  have hD : va_D A [(qf, .inr (7, [])), (qr, .inr (5, [.int (nI n), .int (nI d), .int (nI rn), .long lo, .long hi, .long sl, .long sh, .ref qc, .ref qs]))] := hD
  exact hret (nI (((136 + ((n - 1) * (bln (uN (sh - sl))))) + 7) / 8)) () _ _ _ _ _ _ ⟨rfl, trivial⟩ (hP.sub [0, 1] rfl) (hD.sub [0, 1] (by decide) rfl) hS (Nat.le_of_ble_eq_true rfl) (Nat.le_of_ble_eq_true rfl) dSs_weigh_18

set_option maxHeartbeats 4000000 in
set_option maxRecDepth 100000 in
theorem c_ssL (l : Launch) (D : va_G) (cJ cB cI cF : ClassId) (qf : Nat) (qr : Nat) (n : Nat) (d : Nat) (rn : Nat) (lo : Int64) (hi : Int64) (sl : Int64) (sh : Int64) (qc : Nat) (qs : Nat) (xs : Nat → Int64) (rs : Nat → Int64) (qb : Nat) (qo : Nat) (o : Nat → Int32) (sz : Nat) (hR : rAll xs n d rn lo hi sl sh rs) (hn0 : 0 < n) : Met l ySs_lay (Cond.code ySs_lay cSs_lay 5 none :: wsG) ({ frames := 4, cells := 0, slots := 0, locals := 84 }) (va_Pc [.ref qf, .ref qr, .ref qb] (cfPre D (cfT cJ cB cI cF) [(qf, .inr (7, [])), (qr, .inr (5, [.int (nI n), .int (nI d), .int (nI rn), .long lo, .long hi, .long sl, .long sh, .ref qc, .ref qs])), (qc, .inl (cJ, 1024, .inr (.inl xs))), (qb, .inr (0, [.ref qo, .int (nI 0)])), (qo, .inl (cB, 10242, .inl o))] sz)) (va_Qv (fun (u : Nat × (Nat → Int32) × (Nat → Bool)) => (oB u.2.1 u.1 u.2.2) ∧ (lS xs n u.1 u.2.2) ∧ (u.1 ≤ 81936) ∧ True) (fun u t => cfPost D ((fun (u : Nat × (Nat → Int32) × (Nat → Bool)) => [(qf, .inr (7, [])), (qr, .inr (5, [.int (nI n), .int (nI d), .int (nI rn), .long lo, .long hi, .long sl, .long sh, .ref qc, .ref qs])), (qc, .inl (cJ, 1024, .inr (.inl xs))), (qb, .inr (0, [.ref qo, .int (nI u.1)])), (qo, .inl (cB, 10242, .inl u.2.1))]) u) (va_A [(qf, .inr (7, [])), (qr, .inr (5, [.int (nI n), .int (nI d), .int (nI rn), .long lo, .long hi, .long sl, .long sh, .ref qc, .ref qs])), (qc, .inl (cJ, 1024, .inr (.inl xs))), (qb, .inr (0, [.ref qo, .int (nI 0)])), (qo, .inl (cB, 10242, .inl o))] sz) t) (va_A [(qf, .inr (7, [])), (qr, .inr (5, [.int (nI n), .int (nI d), .int (nI rn), .long lo, .long hi, .long sl, .long sh, .ref qc, .ref qs])), (qc, .inl (cJ, 1024, .inr (.inl xs))), (qb, .inr (0, [.ref qo, .int (nI 0)])), (qo, .inl (cB, 10242, .inl o))] sz)) 0 0 (va_A [(qf, .inr (7, [])), (qr, .inr (5, [.int (nI n), .int (nI d), .int (nI rn), .long lo, .long hi, .long sl, .long sh, .ref qc, .ref qs])), (qc, .inl (cJ, 1024, .inr (.inl xs))), (qb, .inr (0, [.ref qo, .int (nI 0)])), (qo, .inl (cB, 10242, .inl o))] sz) := by
  refine met_v (cc := cSs_lay) (maxL := 5) (S := Nat × (Nat → Int32) × (Nat → Bool)) (D := D) (wO := fun (u : Nat × (Nat → Int32) × (Nat → Bool)) => [(qf, .inr (7, [])), (qr, .inr (5, [.int (nI n), .int (nI d), .int (nI rn), .long lo, .long hi, .long sl, .long sh, .ref qc, .ref qs])), (qc, .inl (cJ, 1024, .inr (.inl xs))), (qb, .inr (0, [.ref qo, .int (nI u.1)])), (qo, .inl (cB, 10242, .inl u.2.1))]) (by decide) (Nat.le_of_ble_eq_true rfl) ?_
  intro p e s m below meth c hx hb hml hown hts hlocks hin hWd A hA hsz hP hK hD hS Q hret ls hl
  have hown : s.vm.findClass "ColumnForms$Steps" = some m.cls := hown
  have hl : lv_has ls 5 [(0, .ref qf), (1, .ref qr), (2, .ref qb)] := hl
  have hP : va_P D vwCl [(qf, .inr (7, [])), (qr, .inr (5, [.int (nI n), .int (nI d), .int (nI rn), .long lo, .long hi, .long sl, .long sh, .ref qc, .ref qs])), (qc, .inl (cJ, 1024, .inr (.inl xs))), (qb, .inr (0, [.ref qo, .int (nI 0)])), (qo, .inl (cB, 10242, .inl o))] s.heap := hP
  have hn := hR.1
  have hR4 := hR.2.2.2 hn0
  refine lv_aload_n hx hb dSs_lay_0 rfl (lv_at hl 1 rfl) ?_
  refine kc_i (wc := [(qr, .inr (5, [.int (nI n), .int (nI d), .int (nI rn), .long lo, .long hi, .long sl, .long sh, .ref qc, .ref qs]))]) (wr := [(qf, .inr (7, [])), (qc, .inl (cJ, 1024, .inr (.inl xs))), (qb, .inr (0, [.ref qo, .int (nI 0)])), (qo, .inl (cB, 10242, .inl o))]) hP hD hS hA [1] [0, 2, 3, 4] rfl rfl (by decide) (by decide) (by decide) (fun hPc hDc => va_runS (As := [.ref qr]) (rest := []) ⟨hx, hb, hml, hown, hts⟩ (c_ssO l D cJ cB cI cF qr n d rn lo hi sl sh qc qs _) (va_cwS 1 hts (wsG_k tw_364 (wsG_k tw_365 (wsG_k tw_9 (wsG_c tw_366)))) rfl rfl rfl (by decide +kernel) ⟨Nat.le_of_ble_eq_true rfl, Nat.le_of_ble_eq_true rfl⟩) ⟨cf_blind, cf_pre hPc hK hDc hWd⟩ rfl rfl hl.1 rfl (lv_room (Nat.le_of_ble_eq_true rfl)) dSs_lay_1 ⟨Nat.le_of_ble_eq_true rfl, Nat.le_of_ble_eq_true rfl⟩) (fun r u H locs hw hP hD hS => ?_)
  obtain ⟨rfl, -⟩ := hw
  have hP : va_P D vwCl [(qf, .inr (7, [])), (qc, .inl (cJ, 1024, .inr (.inl xs))), (qb, .inr (0, [.ref qo, .int (nI 0)])), (qo, .inl (cB, 10242, .inl o)), (qr, .inr (5, [.int (nI n), .int (nI d), .int (nI rn), .long lo, .long hi, .long sl, .long sh, .ref qc, .ref qs]))] H := hP
  have hD : va_D A [(qf, .inr (7, [])), (qc, .inl (cJ, 1024, .inr (.inl xs))), (qb, .inr (0, [.ref qo, .int (nI 0)])), (qo, .inl (cB, 10242, .inl o)), (qr, .inr (5, [.int (nI n), .int (nI d), .int (nI rn), .long lo, .long hi, .long sl, .long sh, .ref qc, .ref qs]))] := hD
  obtain ⟨wd, hwd⟩ : ∃ z, z = bln (uN (sh - sl)) := ⟨_, rfl⟩
  have hw1 : wd ≤ 64 := by rw [hwd]; exact bln64 _
  refine tp_i (show (nI (bln (uN (sh - sl)))) = (nI wd) from congrArg nI hwd.symm) ?_
  refine lv_istore_n (lv' := [(3, .int (nI wd)), (0, .ref qf), (1, .ref qr), (2, .ref qb)]) hx hb dSs_lay_4 rfl hl (by decide) rfl (fun ls hl => ?_)
  refine lv_aload_n hx hb dSs_lay_5 rfl (lv_at hl 3 rfl) ?_
  refine lv_aload_n hx hb dSs_lay_6 rfl (lv_at hl 2 rfl) ?_
  refine lv_iconst (v := nI 0) hx hb dSs_lay_7 (by decide) ?_
  refine kc_l (wc := [(qr, .inr (5, [.int (nI n), .int (nI d), .int (nI rn), .long lo, .long hi, .long sl, .long sh, .ref qc, .ref qs])), (qc, .inl (cJ, 1024, .inr (.inl xs)))]) (wr := [(qf, .inr (7, [])), (qb, .inr (0, [.ref qo, .int (nI 0)])), (qo, .inl (cB, 10242, .inl o))]) hP hD hS hA [4, 1] [0, 2, 3] rfl rfl (by decide) (by decide) (by decide) (fun hPc hDc => va_runV (As := [.int (nI 0)]) (rest := [.ref qb]) ⟨hx, hb, hml, hown, hts⟩ (c_at l D cJ cB cI cF qr n d rn lo hi sl sh qc qs xs 0 _ (by omega) (by omega)) (cwV 1 hts (wsG_k tw_426 (wsG_k tw_257 (wsG_k tw_258 (wsG_k tw_2 (wsG_c tw_259))))) rfl rfl rfl (by decide +kernel) ⟨Nat.le_of_ble_eq_true rfl, Nat.le_of_ble_eq_true rfl⟩) ⟨cf_blind, va_recv hK hPc (ci := 5) (q0 := 0) rfl rfl, cf_pre hPc hK hDc hWd⟩ rfl rfl hl.1 rfl (lv_room (Nat.le_of_ble_eq_true rfl)) dSs_lay_8 ⟨Nat.le_of_ble_eq_true rfl, Nat.le_of_ble_eq_true rfl⟩) (fun r u H locs hw hP hD hS => ?_)
  obtain ⟨rfl, -⟩ := hw
  have hP : va_P D vwCl [(qf, .inr (7, [])), (qb, .inr (0, [.ref qo, .int (nI 0)])), (qo, .inl (cB, 10242, .inl o)), (qr, .inr (5, [.int (nI n), .int (nI d), .int (nI rn), .long lo, .long hi, .long sl, .long sh, .ref qc, .ref qs])), (qc, .inl (cJ, 1024, .inr (.inl xs)))] H := hP
  have hD : va_D A [(qf, .inr (7, [])), (qb, .inr (0, [.ref qo, .int (nI 0)])), (qo, .inl (cB, 10242, .inl o)), (qr, .inr (5, [.int (nI n), .int (nI d), .int (nI rn), .long lo, .long hi, .long sl, .long sh, .ref qc, .ref qs])), (qc, .inl (cJ, 1024, .inr (.inl xs)))] := hD
  refine lv_bipush (v := nI 64) hx hb dSs_lay_11 (by decide) ?_
  refine kc_v (wc := [(qb, .inr (0, [.ref qo, .int (nI 0)])), (qo, .inl (cB, 10242, .inl o))]) (wr := [(qf, .inr (7, [])), (qr, .inr (5, [.int (nI n), .int (nI d), .int (nI rn), .long lo, .long hi, .long sl, .long sh, .ref qc, .ref qs])), (qc, .inl (cJ, 1024, .inr (.inl xs)))]) hP hD hS hA [1, 2] [0, 3, 4] rfl rfl (by decide) (by decide) (by decide) (fun hPc hDc => va_runV (As := [.long (xs 0), .int (nI 64)]) (rest := []) ⟨hx, hb, hml, hown, hts⟩ (c_append l D cJ cB cI cF qb qo 0 o (fun _ => false) (xs 0) 64 _ (oB_0 o _) (by omega) (by omega)) (cwV 2 hts (wsG_k tw_427 (wsG_k tw_395 (wsG_k tw_396 (wsG_k tw_3 (wsG_c tw_397))))) rfl rfl rfl (by decide +kernel) ⟨Nat.le_of_ble_eq_true rfl, Nat.le_of_ble_eq_true rfl⟩) ⟨cf_blind, va_recv hK hPc (ci := 0) (q0 := 0) rfl rfl, cf_pre hPc hK hDc hWd⟩ rfl rfl hl.1 rfl (lv_room (Nat.le_of_ble_eq_true rfl)) dSs_lay_13 ⟨Nat.le_of_ble_eq_true rfl, Nat.le_of_ble_eq_true rfl⟩) (fun u H locs hw hP hD hS => ?_)
  obtain ⟨o2_1, rfl⟩ : ∃ z, z = u := ⟨u, rfl⟩
  obtain ⟨e1, -⟩ := hw
  have e1 : oB o2_1 (0 + 64) (bA (fun _ => false) 0 (xs 0) 64) := e1
  have hP : va_P D vwCl [(qf, .inr (7, [])), (qr, .inr (5, [.int (nI n), .int (nI d), .int (nI rn), .long lo, .long hi, .long sl, .long sh, .ref qc, .ref qs])), (qc, .inl (cJ, 1024, .inr (.inl xs))), (qb, .inr (0, [.ref qo, .int (nI (0 + 64))])), (qo, .inl (cB, 10242, .inl o2_1))] H := hP
  have hD : va_D A [(qf, .inr (7, [])), (qr, .inr (5, [.int (nI n), .int (nI d), .int (nI rn), .long lo, .long hi, .long sl, .long sh, .ref qc, .ref qs])), (qc, .inl (cJ, 1024, .inr (.inl xs))), (qb, .inr (0, [.ref qo, .int (nI (0 + 64))])), (qo, .inl (cB, 10242, .inl o2_1))] := hD
  refine lv_aload_n hx hb dSs_lay_16 rfl (lv_at hl 3 rfl) ?_
  refine lv_aload_n hx hb dSs_lay_17 rfl (lv_at hl 2 rfl) ?_
  refine va_get (D := D) (ci := 5) (v := .long sl) (C := "ColumnForms$Row") (T := TRo) (N := 9) hx hb hts inRo hown hK hP 1 rfl rfl 5 (by decide) (hts _ tw_51) (fun _ h9 => h9) rfl dSs_lay_18 ?_
  refine lv_bipush (v := nI 64) hx hb dSs_lay_21 (by decide) ?_
  refine kc_v (wc := [(qb, .inr (0, [.ref qo, .int (nI (0 + 64))])), (qo, .inl (cB, 10242, .inl o2_1))]) (wr := [(qf, .inr (7, [])), (qr, .inr (5, [.int (nI n), .int (nI d), .int (nI rn), .long lo, .long hi, .long sl, .long sh, .ref qc, .ref qs])), (qc, .inl (cJ, 1024, .inr (.inl xs)))]) hP hD hS hA [3, 4] [0, 1, 2] rfl rfl (by decide) (by decide) (by decide) (fun hPc hDc => va_runV (As := [.long sl, .int (nI 64)]) (rest := []) ⟨hx, hb, hml, hown, hts⟩ (c_append l D cJ cB cI cF qb qo (0 + 64) o2_1 (bA (fun _ => false) 0 (xs 0) 64) sl 64 _ (e1) (by omega) (by omega)) (cwV 2 hts (wsG_k tw_427 (wsG_k tw_395 (wsG_k tw_396 (wsG_k tw_3 (wsG_c tw_397))))) rfl rfl rfl (by decide +kernel) ⟨Nat.le_of_ble_eq_true rfl, Nat.le_of_ble_eq_true rfl⟩) ⟨cf_blind, va_recv hK hPc (ci := 0) (q0 := 0) rfl rfl, cf_pre hPc hK hDc hWd⟩ rfl rfl hl.1 rfl (lv_room (Nat.le_of_ble_eq_true rfl)) dSs_lay_23 ⟨Nat.le_of_ble_eq_true rfl, Nat.le_of_ble_eq_true rfl⟩) (fun u H locs hw hP hD hS => ?_)
  obtain ⟨o2_2, rfl⟩ : ∃ z, z = u := ⟨u, rfl⟩
  obtain ⟨e2, -⟩ := hw
  have e2 : oB o2_2 ((0 + 64) + 64) (bA (bA (fun _ => false) 0 (xs 0) 64) (0 + 64) sl 64) := e2
  have hP : va_P D vwCl [(qf, .inr (7, [])), (qr, .inr (5, [.int (nI n), .int (nI d), .int (nI rn), .long lo, .long hi, .long sl, .long sh, .ref qc, .ref qs])), (qc, .inl (cJ, 1024, .inr (.inl xs))), (qb, .inr (0, [.ref qo, .int (nI ((0 + 64) + 64))])), (qo, .inl (cB, 10242, .inl o2_2))] H := hP
  have hD : va_D A [(qf, .inr (7, [])), (qr, .inr (5, [.int (nI n), .int (nI d), .int (nI rn), .long lo, .long hi, .long sl, .long sh, .ref qc, .ref qs])), (qc, .inl (cJ, 1024, .inr (.inl xs))), (qb, .inr (0, [.ref qo, .int (nI ((0 + 64) + 64))])), (qo, .inl (cB, 10242, .inl o2_2))] := hD
  refine lv_aload_n hx hb dSs_lay_26 rfl (lv_at hl 3 rfl) ?_
  refine lv_iload_n hx hb dSs_lay_27 rfl (lv_at hl 0 rfl) ?_
  refine lv_i2l hx hb dSs_lay_28 rfl ?_
  refine tp_l (show ((nI wd).toInt64) = (lN wd) from nI_l (by omega)) ?_
  refine lv_bipush (v := nI 8) hx hb dSs_lay_29 (by decide) ?_
  refine kc_v (wc := [(qb, .inr (0, [.ref qo, .int (nI ((0 + 64) + 64))])), (qo, .inl (cB, 10242, .inl o2_2))]) (wr := [(qf, .inr (7, [])), (qr, .inr (5, [.int (nI n), .int (nI d), .int (nI rn), .long lo, .long hi, .long sl, .long sh, .ref qc, .ref qs])), (qc, .inl (cJ, 1024, .inr (.inl xs)))]) hP hD hS hA [3, 4] [0, 1, 2] rfl rfl (by decide) (by decide) (by decide) (fun hPc hDc => va_runV (As := [.long (lN wd), .int (nI 8)]) (rest := []) ⟨hx, hb, hml, hown, hts⟩ (c_append l D cJ cB cI cF qb qo ((0 + 64) + 64) o2_2 (bA (bA (fun _ => false) 0 (xs 0) 64) (0 + 64) sl 64) (lN wd) 8 _ (e2) (by omega) (by omega)) (cwV 2 hts (wsG_k tw_427 (wsG_k tw_395 (wsG_k tw_396 (wsG_k tw_3 (wsG_c tw_397))))) rfl rfl rfl (by decide +kernel) ⟨Nat.le_of_ble_eq_true rfl, Nat.le_of_ble_eq_true rfl⟩) ⟨cf_blind, va_recv hK hPc (ci := 0) (q0 := 0) rfl rfl, cf_pre hPc hK hDc hWd⟩ rfl rfl hl.1 rfl (lv_room (Nat.le_of_ble_eq_true rfl)) dSs_lay_31 ⟨Nat.le_of_ble_eq_true rfl, Nat.le_of_ble_eq_true rfl⟩) (fun u H locs hw hP hD hS => ?_)
  obtain ⟨o2_3, rfl⟩ : ∃ z, z = u := ⟨u, rfl⟩
  obtain ⟨e3, -⟩ := hw
  have e3 : oB o2_3 (((0 + 64) + 64) + 8) (bA (bA (bA (fun _ => false) 0 (xs 0) 64) (0 + 64) sl 64) ((0 + 64) + 64) (lN wd) 8) := e3
  have hP : va_P D vwCl [(qf, .inr (7, [])), (qr, .inr (5, [.int (nI n), .int (nI d), .int (nI rn), .long lo, .long hi, .long sl, .long sh, .ref qc, .ref qs])), (qc, .inl (cJ, 1024, .inr (.inl xs))), (qb, .inr (0, [.ref qo, .int (nI (((0 + 64) + 64) + 8))])), (qo, .inl (cB, 10242, .inl o2_3))] H := hP
  have hD : va_D A [(qf, .inr (7, [])), (qr, .inr (5, [.int (nI n), .int (nI d), .int (nI rn), .long lo, .long hi, .long sl, .long sh, .ref qc, .ref qs])), (qc, .inl (cJ, 1024, .inr (.inl xs))), (qb, .inr (0, [.ref qo, .int (nI (((0 + 64) + 64) + 8))])), (qo, .inl (cB, 10242, .inl o2_3))] := hD
  refine lv_iconst (v := nI 1) hx hb dSs_lay_34 (by decide) ?_
  refine lv_istore (lv' := [(4, .int (nI 1)), (3, .int (nI wd)), (0, .ref qf), (1, .ref qr), (2, .ref qb)]) hx hb dSs_lay_35 hl (by decide) rfl (fun ls hl => ?_)
  have lp : ∀ (k_lp : Nat) (i : Nat) (bq : Nat) (o1 : Nat → Int32) (B1 : Nat → Bool), (1 ≤ i) → (i ≤ n) → (bq = 136 + (i - 1) * wd) → (oB o1 bq B1) → (fld B1 0 64 (xs 0)) → (fld B1 64 64 sl) → (fld B1 128 8 (lN wd)) → (∀ j, j < i - 1 → fld B1 (136 + j * wd) wd (xs (j + 1) - xs j - sl)) → (n - i < k_lp) → ∀ (H : Heap) (locs : List Loc) (ls : Array Slot), va_P D vwCl [(qf, .inr (7, [])), (qr, .inr (5, [.int (nI n), .int (nI d), .int (nI rn), .long lo, .long hi, .long sl, .long sh, .ref qc, .ref qs])), (qc, .inl (cJ, 1024, .inr (.inl xs))), (qb, .inr (0, [.ref qo, .int (nI bq)])), (qo, .inl (cB, 10242, .inl o1))] H → va_D A [(qf, .inr (7, [])), (qr, .inr (5, [.int (nI n), .int (nI d), .int (nI rn), .long lo, .long hi, .long sl, .long sh, .ref qc, .ref qs])), (qc, .inl (cJ, 1024, .inr (.inl xs))), (qb, .inr (0, [.ref qo, .int (nI bq)])), (qo, .inl (cB, 10242, .inl o1))] → va_S A s.heap H locs → lv_has ls 5 [(0, .ref qf), (1, .ref qr), (2, .ref qb), (3, .int (nI wd)), (4, .int (nI i))] → W p l e ({ frames := 4, cells := 0, slots := 0, locals := 84 }) s m ([.ref qf, .ref qr, .ref qb].toArray) below meth c H locs (0) (0) Q (F0 m 37 ls []) := by
    intro k_lp
    induction k_lp with
    | zero => intro i bq o1 B1 g0 g1 g2 g3 g4 g5 g55 g6 hfu; exact absurd hfu (by omega)
    | succ k_lp ih_lp =>
      intro i bq o1 B1 g0 g1 g2 g3 g4 g5 g55 g6 hfu H locs ls hP hD hS hl
      have hm : (i - 1) * wd ≤ 1024 * 64 := Nat.mul_le_mul (by omega) hw1
      refine lv_iload hx hb dSs_lay_37 (lv_at hl 4 rfl) ?_
      refine lv_aload_n hx hb dSs_lay_39 rfl (lv_at hl 1 rfl) ?_
      refine va_get (D := D) (ci := 5) (v := .int (nI n)) (C := "ColumnForms$Row") (T := TRo) (N := 9) hx hb hts inRo hown hK hP 1 rfl rfl 0 (by decide) (hts _ tw_39) (fun _ h9 => h9) rfl dSs_lay_40 ?_
      refine lv_icmp_ge (tgt := 77) hx hb dSs_lay_43 (by decide) (fun c43 => ?_) (fun c43 => ?_)
      · have c43 : n ≤ i := (nI_leI (by omega) (by omega)).mp c43
        exact hret (bq, o1, B1) _ _ _ _ _ _ ⟨g3, lS_of hR4.2.2.1 hR4.2.2.2 hwd (by have e : i = n := (by omega); rw [← e]; exact g2) g4 g5 g55 (fun j hj => g6 j (by omega)), by show bq ≤ _; omega, trivial⟩ (hP.sub [0, 1, 2, 3, 4] rfl) (hD.sub [0, 1, 2, 3, 4] (by decide) rfl) hS (Nat.le_of_ble_eq_true rfl) (Nat.le_of_ble_eq_true rfl) dSs_lay_77
      · have c43 : ¬ n ≤ i := fun h => c43 ((nI_leI (by omega) (by omega)).mpr h)
        refine lv_aload_n hx hb dSs_lay_46 rfl (lv_at hl 2 rfl) ?_
        refine lv_aload_n hx hb dSs_lay_47 rfl (lv_at hl 1 rfl) ?_
        refine lv_iload hx hb dSs_lay_48 (lv_at hl 4 rfl) ?_
        refine kc_l (wc := [(qr, .inr (5, [.int (nI n), .int (nI d), .int (nI rn), .long lo, .long hi, .long sl, .long sh, .ref qc, .ref qs])), (qc, .inl (cJ, 1024, .inr (.inl xs)))]) (wr := [(qf, .inr (7, [])), (qb, .inr (0, [.ref qo, .int (nI bq)])), (qo, .inl (cB, 10242, .inl o1))]) hP hD hS hA [1, 2] [0, 3, 4] rfl rfl (by decide) (by decide) (by decide) (fun hPc hDc => va_runV (As := [.int (nI i)]) (rest := [.ref qb]) ⟨hx, hb, hml, hown, hts⟩ (c_at l D cJ cB cI cF qr n d rn lo hi sl sh qc qs xs i _ (by omega) (by omega)) (cwV 1 hts (wsG_k tw_426 (wsG_k tw_257 (wsG_k tw_258 (wsG_k tw_2 (wsG_c tw_259))))) rfl rfl rfl (by decide +kernel) ⟨Nat.le_of_ble_eq_true rfl, Nat.le_of_ble_eq_true rfl⟩) ⟨cf_blind, va_recv hK hPc (ci := 5) (q0 := 0) rfl rfl, cf_pre hPc hK hDc hWd⟩ rfl rfl hl.1 rfl (lv_room (Nat.le_of_ble_eq_true rfl)) dSs_lay_50 ⟨Nat.le_of_ble_eq_true rfl, Nat.le_of_ble_eq_true rfl⟩) (fun r u H locs hw hP hD hS => ?_)
        obtain ⟨rfl, -⟩ := hw
        have hP : va_P D vwCl [(qf, .inr (7, [])), (qb, .inr (0, [.ref qo, .int (nI bq)])), (qo, .inl (cB, 10242, .inl o1)), (qr, .inr (5, [.int (nI n), .int (nI d), .int (nI rn), .long lo, .long hi, .long sl, .long sh, .ref qc, .ref qs])), (qc, .inl (cJ, 1024, .inr (.inl xs)))] H := hP
        have hD : va_D A [(qf, .inr (7, [])), (qb, .inr (0, [.ref qo, .int (nI bq)])), (qo, .inl (cB, 10242, .inl o1)), (qr, .inr (5, [.int (nI n), .int (nI d), .int (nI rn), .long lo, .long hi, .long sl, .long sh, .ref qc, .ref qs])), (qc, .inl (cJ, 1024, .inr (.inl xs)))] := hD
        refine lv_aload_n hx hb dSs_lay_53 rfl (lv_at hl 1 rfl) ?_
        refine lv_iload hx hb dSs_lay_54 (lv_at hl 4 rfl) ?_
        refine lv_iconst (v := nI 1) hx hb dSs_lay_56 (by decide) ?_
        refine lv_isub hx hb dSs_lay_57 ?_
        refine tp_i (show ((nI i) - (nI 1)) = (nI (i - 1)) from pk_sub (by omega)) ?_
        refine kc_l (wc := [(qr, .inr (5, [.int (nI n), .int (nI d), .int (nI rn), .long lo, .long hi, .long sl, .long sh, .ref qc, .ref qs])), (qc, .inl (cJ, 1024, .inr (.inl xs)))]) (wr := [(qf, .inr (7, [])), (qb, .inr (0, [.ref qo, .int (nI bq)])), (qo, .inl (cB, 10242, .inl o1))]) hP hD hS hA [3, 4] [0, 1, 2] rfl rfl (by decide) (by decide) (by decide) (fun hPc hDc => va_runV (As := [.int (nI (i - 1))]) (rest := [.long (xs i), .ref qb]) ⟨hx, hb, hml, hown, hts⟩ (c_at l D cJ cB cI cF qr n d rn lo hi sl sh qc qs xs (i - 1) _ (by omega) (by omega)) (cwV 1 hts (wsG_k tw_426 (wsG_k tw_257 (wsG_k tw_258 (wsG_k tw_2 (wsG_c tw_259))))) rfl rfl rfl (by decide +kernel) ⟨Nat.le_of_ble_eq_true rfl, Nat.le_of_ble_eq_true rfl⟩) ⟨cf_blind, va_recv hK hPc (ci := 5) (q0 := 0) rfl rfl, cf_pre hPc hK hDc hWd⟩ rfl rfl hl.1 rfl (lv_room (Nat.le_of_ble_eq_true rfl)) dSs_lay_58 ⟨Nat.le_of_ble_eq_true rfl, Nat.le_of_ble_eq_true rfl⟩) (fun r u H locs hw hP hD hS => ?_)
        obtain ⟨rfl, -⟩ := hw
        have hP : va_P D vwCl [(qf, .inr (7, [])), (qb, .inr (0, [.ref qo, .int (nI bq)])), (qo, .inl (cB, 10242, .inl o1)), (qr, .inr (5, [.int (nI n), .int (nI d), .int (nI rn), .long lo, .long hi, .long sl, .long sh, .ref qc, .ref qs])), (qc, .inl (cJ, 1024, .inr (.inl xs)))] H := hP
        have hD : va_D A [(qf, .inr (7, [])), (qb, .inr (0, [.ref qo, .int (nI bq)])), (qo, .inl (cB, 10242, .inl o1)), (qr, .inr (5, [.int (nI n), .int (nI d), .int (nI rn), .long lo, .long hi, .long sl, .long sh, .ref qc, .ref qs])), (qc, .inl (cJ, 1024, .inr (.inl xs)))] := hD
        refine lv_lsub hx hb dSs_lay_61 ?_
        refine lv_aload_n hx hb dSs_lay_62 rfl (lv_at hl 1 rfl) ?_
        refine va_get (D := D) (ci := 5) (v := .long sl) (C := "ColumnForms$Row") (T := TRo) (N := 9) hx hb hts inRo hown hK hP 3 rfl rfl 5 (by decide) (hts _ tw_51) (fun _ h9 => h9) rfl dSs_lay_63 ?_
        refine lv_lsub hx hb dSs_lay_66 ?_
        refine lv_iload_n hx hb dSs_lay_67 rfl (lv_at hl 3 rfl) ?_
        refine kc_v (wc := [(qb, .inr (0, [.ref qo, .int (nI bq)])), (qo, .inl (cB, 10242, .inl o1))]) (wr := [(qf, .inr (7, [])), (qr, .inr (5, [.int (nI n), .int (nI d), .int (nI rn), .long lo, .long hi, .long sl, .long sh, .ref qc, .ref qs])), (qc, .inl (cJ, 1024, .inr (.inl xs)))]) hP hD hS hA [1, 2] [0, 3, 4] rfl rfl (by decide) (by decide) (by decide) (fun hPc hDc => va_runV (As := [.long (((xs i) - (xs (i - 1))) - sl), .int (nI wd)]) (rest := []) ⟨hx, hb, hml, hown, hts⟩ (c_append l D cJ cB cI cF qb qo bq o1 B1 (((xs i) - (xs (i - 1))) - sl) wd _ (g3) (hw1) (by omega)) (cwV 2 hts (wsG_k tw_427 (wsG_k tw_395 (wsG_k tw_396 (wsG_k tw_3 (wsG_c tw_397))))) rfl rfl rfl (by decide +kernel) ⟨Nat.le_of_ble_eq_true rfl, Nat.le_of_ble_eq_true rfl⟩) ⟨cf_blind, va_recv hK hPc (ci := 0) (q0 := 0) rfl rfl, cf_pre hPc hK hDc hWd⟩ rfl rfl hl.1 rfl (lv_room (Nat.le_of_ble_eq_true rfl)) dSs_lay_68 ⟨Nat.le_of_ble_eq_true rfl, Nat.le_of_ble_eq_true rfl⟩) (fun u H locs hw hP hD hS => ?_)
        obtain ⟨o2_4, rfl⟩ : ∃ z, z = u := ⟨u, rfl⟩
        obtain ⟨f9, -⟩ := hw
        have f9 : oB o2_4 (bq + wd) (bA B1 bq (((xs i) - (xs (i - 1))) - sl) wd) := f9
        have hP : va_P D vwCl [(qf, .inr (7, [])), (qr, .inr (5, [.int (nI n), .int (nI d), .int (nI rn), .long lo, .long hi, .long sl, .long sh, .ref qc, .ref qs])), (qc, .inl (cJ, 1024, .inr (.inl xs))), (qb, .inr (0, [.ref qo, .int (nI (bq + wd))])), (qo, .inl (cB, 10242, .inl o2_4))] H := hP
        have hD : va_D A [(qf, .inr (7, [])), (qr, .inr (5, [.int (nI n), .int (nI d), .int (nI rn), .long lo, .long hi, .long sl, .long sh, .ref qc, .ref qs])), (qc, .inl (cJ, 1024, .inr (.inl xs))), (qb, .inr (0, [.ref qo, .int (nI (bq + wd))])), (qo, .inl (cB, 10242, .inl o2_4))] := hD
        refine lv_iinc (v := nI (i + 1)) (lv' := [(4, .int (nI (i + 1))), (0, .ref qf), (1, .ref qr), (2, .ref qb), (3, .int (nI wd))]) hx hb dSs_lay_71 hl (k := 4) rfl (by rw [show (Int32.ofInt 1) = nI 1 from by decide]; exact nI_add _ _) (by decide) rfl (fun ls hl => ?_)
        refine lv_goto (tgt := 37) hx hb dSs_lay_74 (by decide) ?_
        exact ih_lp (i + 1) (bq + wd) o2_4 (bA B1 bq (xs i - xs (i - 1) - sl) wd) (by omega) (by omega) (by rw [show i + 1 - 1 = (i - 1) + 1 by omega, Nat.succ_mul]; omega) (f9) (fld_keep g4 (by omega)) (fld_keep g5 (by omega)) (fld_keep g55 (by omega)) (by rw [show i + 1 - 1 = (i - 1) + 1 by omega]; exact fld_add (a := fun j => 136 + j * wd) (wd := fun _ => wd) (vl := fun j => xs (j + 1) - xs j - sl) g6 (fun j hj => by have := mul_lo (w := wd) hj; show 136 + j * wd + wd ≤ bq; omega) (by show 136 + (i - 1) * wd = bq; omega) (by show xs (i - 1 + 1) - xs (i - 1) - sl = _; rw [show i - 1 + 1 = i by omega]) rfl) (by omega) _ _ _ (hP.sub [0, 1, 2, 3, 4] rfl) (hD.sub [0, 1, 2, 3, 4] (by decide) rfl) hS (lv_sub hl [1, 2, 3, 4, 0] rfl)
  exact lp (n - 1 + 1) 1 (((0 + 64) + 64) + 8) o2_3 (bA (bA (bA (fun _ => false) 0 (xs 0) 64) (0 + 64) sl 64) (0 + 64 + 64) (lN wd) 8) (by omega) (by omega) (by omega) (e3) (fld_keep (fld_keep (bA_fld _ _ _ _) (by omega)) (by omega)) (fld_keep (bA_fld _ _ _ _) (by omega)) (bA_fld _ _ _ _) (fun j hj => absurd hj (by omega)) (by omega) _ _ _ (hP.sub [0, 1, 2, 3, 4] rfl) (hD.sub [0, 1, 2, 3, 4] (by decide) rfl) hS (lv_sub hl [2, 3, 4, 1, 0] rfl)

