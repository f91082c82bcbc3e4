theorem tl_of {w : Cond} (i : Nat) (h : tables_1[i]? = some w) : w ∈ lw_tbl := List.mem_append_right _ (List.mem_of_getElem? h)
theorem tv_32 : Cond.methodLinkNest "ColumnForms" 9 ⟨"ColumnForms$Row", "<init>", "()V"⟩ "ColumnForms" ∈ lw_tbl := tl_of 32 (by decide +kernel)
theorem tv_79 : Cond.methodLinkNest "ColumnForms" 18 ⟨"ColumnForms$Bytes", "<init>", "()V"⟩ "ColumnForms" ∈ lw_tbl := tl_of 79 (by decide +kernel)
theorem tv_92 : Cond.arrayOver (.object "ColumnForms$Form") ∈ lw_tbl := tl_of 92 (by decide +kernel)
theorem tv_95 : Cond.methodLinkNest "ColumnForms" 27 ⟨"ColumnForms$Plain", "<init>", "()V"⟩ "ColumnForms" ∈ lw_tbl := tl_of 95 (by decide +kernel)
theorem tv_98 : Cond.methodLinkNest "ColumnForms$Plain" 1 ⟨"ColumnForms$Form", "<init>", "()V"⟩ "ColumnForms" ∈ lw_tbl := tl_of 98 (by decide +kernel)
theorem tv_105 : Cond.methodLinkNest "ColumnForms" 30 ⟨"ColumnForms$Packed", "<init>", "()V"⟩ "ColumnForms" ∈ lw_tbl := tl_of 105 (by decide +kernel)
theorem tv_108 : Cond.methodLinkNest "ColumnForms$Packed" 1 ⟨"ColumnForms$Form", "<init>", "()V"⟩ "ColumnForms" ∈ lw_tbl := tl_of 108 (by decide +kernel)
theorem tv_112 : Cond.methodLinkNest "ColumnForms" 33 ⟨"ColumnForms$Listed", "<init>", "()V"⟩ "ColumnForms" ∈ lw_tbl := tl_of 112 (by decide +kernel)
theorem tv_115 : Cond.methodLinkNest "ColumnForms$Listed" 3 ⟨"ColumnForms$Form", "<init>", "()V"⟩ "ColumnForms" ∈ lw_tbl := tl_of 115 (by decide +kernel)
theorem tv_123 : Cond.methodLinkNest "ColumnForms" 36 ⟨"ColumnForms$Runs", "<init>", "()V"⟩ "ColumnForms" ∈ lw_tbl := tl_of 123 (by decide +kernel)
theorem tv_126 : Cond.methodLinkNest "ColumnForms$Runs" 1 ⟨"ColumnForms$Form", "<init>", "()V"⟩ "ColumnForms" ∈ lw_tbl := tl_of 126 (by decide +kernel)
theorem tv_130 : Cond.methodLinkNest "ColumnForms" 39 ⟨"ColumnForms$Steps", "<init>", "()V"⟩ "ColumnForms" ∈ lw_tbl := tl_of 130 (by decide +kernel)
theorem tv_133 : Cond.methodLinkNest "ColumnForms$Steps" 1 ⟨"ColumnForms$Form", "<init>", "()V"⟩ "ColumnForms" ∈ lw_tbl := tl_of 133 (by decide +kernel)
theorem tv_171 : Cond.methodLinkNest "ColumnForms$Bytes" 19 ⟨"ColumnForms", "wholeBytes", "(I)I"⟩ "ColumnForms" ∈ lw_tbl := tl_of 171 (by decide +kernel)
theorem tv_184 : Cond.castable "java/lang/IllegalStateException" "java/lang/IllegalStateException" ∈ lw_tbl := tl_of 184 (by decide +kernel)
theorem tv_185 : Cond.declares ⟨"java/lang/RuntimeException", "<init>", "()V"⟩ ∈ lw_tbl := tl_of 185 (by decide +kernel)
theorem tv_186 : Cond.declares ⟨"java/lang/RuntimeException", "<init>", "(Ljava/lang/String;)V"⟩ ∈ lw_tbl := tl_of 186 (by decide +kernel)
theorem tv_187 : Cond.declares ⟨"java/lang/Exception", "<init>", "()V"⟩ ∈ lw_tbl := tl_of 187 (by decide +kernel)
theorem tv_188 : Cond.declares ⟨"java/lang/Exception", "<init>", "(Ljava/lang/String;)V"⟩ ∈ lw_tbl := tl_of 188 (by decide +kernel)
theorem tv_189 : Cond.declares ⟨"java/lang/Throwable", "<init>", "()V"⟩ ∈ lw_tbl := tl_of 189 (by decide +kernel)
theorem tv_190 : Cond.declares ⟨"java/lang/Throwable", "<init>", "(Ljava/lang/String;)V"⟩ ∈ lw_tbl := tl_of 190 (by decide +kernel)
theorem tv_209 : Cond.laysStatic "java/lang/Throwable" "UNASSIGNED_STACK" "[Ljava/lang/StackTraceElement;" ∈ lw_tbl := tl_of 209 (by decide +kernel)
theorem tv_211 : Cond.laysStatic "java/lang/Throwable" "SUPPRESSED_SENTINEL" "Ljava/util/List;" ∈ lw_tbl := tl_of 211 (by decide +kernel)
theorem tv_222 : Cond.stringRef "ColumnForms" 56 "the row is full" ∈ lw_tbl := tl_of 222 (by decide +kernel)
theorem tv_295 : Cond.castable "java/lang/IllegalArgumentException" "java/lang/IllegalArgumentException" ∈ lw_tbl := tl_of 295 (by decide +kernel)
theorem tv_302 : Cond.stringRef "ColumnForms" 67 "n is not 1 .. 1024" ∈ lw_tbl := tl_of 302 (by decide +kernel)
theorem tv_309 : Cond.stringRef "ColumnForms" 70 "the row would have too many cells" ∈ lw_tbl := tl_of 309 (by decide +kernel)
theorem tv_320 : Cond.stringRef "ColumnForms" 128 "the form is not 0 .. 4" ∈ lw_tbl := tl_of 320 (by decide +kernel)
theorem tv_325 : Cond.stringRef "ColumnForms" 130 "the row is empty" ∈ lw_tbl := tl_of 325 (by decide +kernel)
theorem tv_327 : Cond.declares ⟨"ColumnForms$Form", "weigh", "(LColumnForms$Row;)I"⟩ ∈ lw_tbl := tl_of 327 (by decide +kernel)
theorem tv_335 : Cond.methodLinkNest "ColumnForms$Listed" 28 ⟨"ColumnForms", "bits", "(J)I"⟩ "ColumnForms" ∈ lw_tbl := tl_of 335 (by decide +kernel)
theorem tv_345 : Cond.methodLinkNest "ColumnForms$Listed" 32 ⟨"ColumnForms", "wholeBytes", "(I)I"⟩ "ColumnForms" ∈ lw_tbl := tl_of 345 (by decide +kernel)
theorem tv_352 : Cond.methodLinkNest "ColumnForms$Packed" 51 ⟨"ColumnForms", "bits", "(J)I"⟩ "ColumnForms" ∈ lw_tbl := tl_of 352 (by decide +kernel)
theorem tv_353 : Cond.methodLinkNest "ColumnForms$Packed" 19 ⟨"ColumnForms", "wholeBytes", "(I)I"⟩ "ColumnForms" ∈ lw_tbl := tl_of 353 (by decide +kernel)
theorem tv_360 : Cond.methodLinkNest "ColumnForms$Runs" 15 ⟨"ColumnForms", "wholeBytes", "(I)I"⟩ "ColumnForms" ∈ lw_tbl := tl_of 360 (by decide +kernel)
theorem tv_367 : Cond.methodLinkNest "ColumnForms$Steps" 55 ⟨"ColumnForms", "bits", "(J)I"⟩ "ColumnForms" ∈ lw_tbl := tl_of 367 (by decide +kernel)
theorem tv_368 : Cond.methodLinkNest "ColumnForms$Steps" 19 ⟨"ColumnForms", "wholeBytes", "(I)I"⟩ "ColumnForms" ∈ lw_tbl := tl_of 368 (by decide +kernel)
theorem tv_389 : Cond.declares ⟨"ColumnForms$Form", "lay", "(LColumnForms$Row;LColumnForms$Bytes;)V"⟩ ∈ lw_tbl := tl_of 389 (by decide +kernel)
theorem tv_442 : Cond.stringRef "ColumnForms" 96 "there is no such byte" ∈ lw_tbl := tl_of 442 (by decide +kernel)
theorem tv_454 : Cond.stringRef "ColumnForms" 101 "there is no such cell" ∈ lw_tbl := tl_of 454 (by decide +kernel)
theorem tv_456 : Cond.declares ⟨"ColumnForms$Form", "read", "(LColumnForms$Bytes;I)J"⟩ ∈ lw_tbl := tl_of 456 (by decide +kernel)
theorem tv_507 : Cond.stringRef "ColumnForms" 107 "kind is not 0 .. 3" ∈ lw_tbl := tl_of 507 (by decide +kernel)
theorem tv_512 : Cond.stringRef "ColumnForms" 132 "there is no column" ∈ lw_tbl := tl_of 512 (by decide +kernel)
theorem tv_538 : Cond.declares ⟨"ColumnForms$Form", "askAll", "(LColumnForms$Bytes;ILColumnForms$Question;)V"⟩ ∈ lw_tbl := tl_of 538 (by decide +kernel)
theorem tv_747 : Cond.castable "ColumnForms$Listed" "ColumnForms$Form" ∈ lw_tbl := tl_of 747 (by decide +kernel)
theorem tv_748 : Cond.castable "ColumnForms$Packed" "ColumnForms$Form" ∈ lw_tbl := tl_of 748 (by decide +kernel)
theorem tv_749 : Cond.castable "ColumnForms$Plain" "ColumnForms$Form" ∈ lw_tbl := tl_of 749 (by decide +kernel)
theorem tv_750 : Cond.castable "ColumnForms$Runs" "ColumnForms$Form" ∈ lw_tbl := tl_of 750 (by decide +kernel)
theorem tv_751 : Cond.castable "ColumnForms$Steps" "ColumnForms$Form" ∈ lw_tbl := tl_of 751 (by decide +kernel)
theorem cfNs_in : ∀ w ∈ cfNs, w ∈ lw_tbl := List.forall_mem_cons.mpr ⟨tv_32, List.forall_mem_cons.mpr ⟨tv_79, List.forall_mem_cons.mpr ⟨tv_95, List.forall_mem_cons.mpr ⟨tv_98, List.forall_mem_cons.mpr ⟨tv_105, List.forall_mem_cons.mpr ⟨tv_108, List.forall_mem_cons.mpr ⟨tv_112, List.forall_mem_cons.mpr ⟨tv_115, List.forall_mem_cons.mpr ⟨tv_123, List.forall_mem_cons.mpr ⟨tv_126, List.forall_mem_cons.mpr ⟨tv_130, List.forall_mem_cons.mpr ⟨tv_133, List.forall_mem_cons.mpr ⟨tv_171, List.forall_mem_cons.mpr ⟨tv_335, List.forall_mem_cons.mpr ⟨tv_345, List.forall_mem_cons.mpr ⟨tv_352, List.forall_mem_cons.mpr ⟨tv_353, List.forall_mem_cons.mpr ⟨tv_360, List.forall_mem_cons.mpr ⟨tv_367, List.forall_mem_cons.mpr ⟨tv_368, List.forall_mem_cons.mpr ⟨tv_185, List.forall_mem_cons.mpr ⟨tv_186, List.forall_mem_cons.mpr ⟨tv_187, List.forall_mem_cons.mpr ⟨tv_188, List.forall_mem_cons.mpr ⟨tv_189, List.forall_mem_cons.mpr ⟨tv_190, List.forall_mem_cons.mpr ⟨tv_327, List.forall_mem_cons.mpr ⟨tv_389, List.forall_mem_cons.mpr ⟨tv_456, List.forall_mem_cons.mpr ⟨tv_538, List.forall_mem_cons.mpr ⟨tv_184, List.forall_mem_cons.mpr ⟨tv_295, List.forall_mem_cons.mpr ⟨tv_747, List.forall_mem_cons.mpr ⟨tv_748, List.forall_mem_cons.mpr ⟨tv_749, List.forall_mem_cons.mpr ⟨tv_750, List.forall_mem_cons.mpr ⟨tv_751, fun _ h => nomatch h⟩⟩⟩⟩⟩⟩⟩⟩⟩⟩⟩⟩⟩⟩⟩⟩⟩⟩⟩⟩⟩⟩⟩⟩⟩⟩⟩⟩⟩⟩⟩⟩⟩⟩⟩⟩⟩
theorem cf_str {own tx : String} {k : Nat} {A : Array Value} {s : State} (h1 : (Cond.stringRef own k tx).before A s = true) (h2 : (Cond.exactly (.string own k) "java/lang/String").before A s = true) : ∃ a, vk_R own k tx a s := by
  obtain ⟨a, c, cA, kA, q1, -⟩ := Cond.exactly_spec (args := A) (first := s) (o := none) (s := s) (idx := []) h2
  exact ⟨a, vk_R.of h1 q1⟩
set_option maxRecDepth 100000 in
theorem cf_xWd {s : State} {b : Nat} (hts0 : ∀ w ∈ lw_tbl, w.before #[Value.ref b] s = true) (hgv : (Jvm.Cond.and given_1 narrow_1).before #[Value.ref b] s = true) : xWd (fun q : Nat => s.heap.size ≤ q) s := by
  have hs := flat_of_before _ hgv
  have hA : ∀ a : Nat, a < s.heap.size → ¬ (fun q : Nat => s.heap.size ≤ q) a := fun a h q => absurd q (Nat.not_le.mpr h)
  refine ⟨vx_Zqof (hts0 _ tv_209) (hts0 _ (wsG_in _ tw_11)) (hs _ (by decide +kernel)) hA, vx_Zqof (hts0 _ tv_211) (hts0 _ (wsG_in _ tw_11)) (hs _ (by decide +kernel)) hA, List.forall_mem_cons.mpr ⟨cf_str (hts0 _ tv_222) (hs _ (by decide +kernel)), List.forall_mem_cons.mpr ⟨cf_str (hts0 _ tv_302) (hs _ (by decide +kernel)), List.forall_mem_cons.mpr ⟨cf_str (hts0 _ tv_309) (hs _ (by decide +kernel)), List.forall_mem_cons.mpr ⟨cf_str (hts0 _ tv_320) (hs _ (by decide +kernel)), List.forall_mem_cons.mpr ⟨cf_str (hts0 _ tv_325) (hs _ (by decide +kernel)), List.forall_mem_cons.mpr ⟨cf_str (hts0 _ tv_442) (hs _ (by decide +kernel)), List.forall_mem_cons.mpr ⟨cf_str (hts0 _ tv_454) (hs _ (by decide +kernel)), List.forall_mem_cons.mpr ⟨cf_str (hts0 _ tv_507) (hs _ (by decide +kernel)), List.forall_mem_cons.mpr ⟨cf_str (hts0 _ tv_512) (hs _ (by decide +kernel)), fun _ h => nomatch h⟩⟩⟩⟩⟩⟩⟩⟩⟩, va_Nc.of (args := #[Value.ref b]) (hs _ (by decide +kernel))⟩
theorem cf_K {s : State} {A : Array Value} (hts0 : ∀ w ∈ lw_tbl, w.before A s = true) : ∃ (D : va_G) (cJ cB cI cF : ClassId), va_K D vwCl (cfT cJ cB cI cF) s := by
  have hts : ∀ w ∈ wsG, w.before A s = true := fun w h => hts0 w (wsG_in w h)
  obtain ⟨c0, i0, hK0⟩ := u_known (C := "ColumnForms$Bytes") (T := TBy) (N := 2) (n := 2) hts inBy (hts _ tw_78)
  obtain ⟨c1, i1, hK1⟩ := u_known (C := "ColumnForms$Listed") (T := TLi) (N := 1) (n := 1) hts inLi (hts _ tw_111)
  obtain ⟨c2, i2, hK2⟩ := u_known (C := "ColumnForms$Packed") (T := TPa) (N := 0) (n := 0) hts inPa (hts _ tw_104)
  obtain ⟨c3, i3, hK3⟩ := u_known (C := "ColumnForms$Plain") (T := TPl) (N := 0) (n := 0) hts inPl (hts _ tw_94)
  obtain ⟨c4, i4, hK4⟩ := u_known (C := "ColumnForms$Question") (T := TQu) (N := 5) (n := 5) hts inQu (hts _ tw_514)
  obtain ⟨c5, i5, hK5⟩ := u_known (C := "ColumnForms$Row") (T := TRo) (N := 9) (n := 9) hts inRo (hts _ tw_31)
  obtain ⟨c6, i6, hK6⟩ := u_known (C := "ColumnForms$Runs") (T := TRu) (N := 0) (n := 0) hts inRu (hts _ tw_122)
  obtain ⟨c7, i7, hK7⟩ := u_known (C := "ColumnForms$Steps") (T := TSs) (N := 0) (n := 0) hts inSs (hts _ tw_129)
  obtain ⟨c8, i8, hK8⟩ := u_known (C := "ColumnForms") (T := TCf) (N := 5) (n := 5) hts inCf (hts _ tw_23)
  obtain ⟨c9, i9, hK9⟩ := u_known (C := "ColumnFormsModel") (T := TMo) (N := 11) (n := 11) hts inMo (hts _ tw_584)
  obtain ⟨cJ, kJ, mJ, eJ1, eJ2, eJ3⟩ := Cond.arrayClass_spec (hts _ tw_76)
  obtain ⟨cB, kB, mB, eB1, eB2, eB3⟩ := Cond.arrayClass_spec (hts _ tw_90)
  obtain ⟨cI, kI, mI, eI1, eI2, eI3⟩ := Cond.arrayClass_spec (hts _ tw_120)
  obtain ⟨mF, cF, kF, eF1, -, eF2, eF3, eF4⟩ := Cond.arrayOver_spec (hts0 _ tv_92)
  refine ⟨(fun k => [c0, c1, c2, c3, c4, c5, c6, c7, c8, c9].getD k c0, fun k => [i0, i1, i2, i3, i4, i5, i6, i7, i8, i9].getD k i0), cJ, cB, cI, cF, fun k q hq => ?_, fun k q hq => ?_⟩
  · match k, hq with
    | 0, hq => cases hq; exact hK0
    | 1, hq => cases hq; exact hK1
    | 2, hq => cases hq; exact hK2
    | 3, hq => cases hq; exact hK3
    | 4, hq => cases hq; exact hK4
    | 5, hq => cases hq; exact hK5
    | 6, hq => cases hq; exact hK6
    | 7, hq => cases hq; exact hK7
    | 8, hq => cases hq; exact hK8
    | 9, hq => cases hq; exact hK9
    | k + 10, hq => simp [vwCl] at hq
  · match k, hq with
    | 0, hq => cases hq; exact ⟨fun n z => ⟨fun k h => (by cases h), kJ, eJ2, mJ, eJ3⟩, eJ1⟩
    | 1, hq => cases hq; exact ⟨fun n z => ⟨fun k h => (by cases h), kB, eB2, mB, eB3⟩, eB1⟩
    | 2, hq => cases hq; exact ⟨fun n z => ⟨fun k h => (by cases h), kI, eI2, mI, eI3⟩, eI1⟩
    | 3, hq => cases hq; exact ⟨fun n z => ⟨fun k h => (by cases h), kF, eF2, mF, eF3⟩, kF, mF, eF2, eF3, eF1, eF4⟩
    | k + 4, hq => simp [cfT] at hq
set_option maxHeartbeats 4000000 in
set_option maxRecDepth 100000 in
theorem whole_start {p : Program} {e : Env} {s : State} {m : MethodId} {below : List Frame} {meth : Method} {c : Code} (l : Launch) (hl0 : l.stackTraces = false) {b L : Nat} {sc : Nat → Int32} (hL : L ≤ 3072) (C0 : lw_At p s m meth c b L sc) : W p l e room_1 s m #[Value.ref b] below meth c s.heap [] 0 0 (lw_Z below #[Value.ref b] s) (entryFrame m ([Value.ref b] : List Value).toArray 8) := by
  obtain ⟨D, cJ, cB, cI, cF, hK⟩ := cf_K C0.2.2.2.2.2.1
  have hWd : cfWd s := ⟨fun w hw => va_Nw.of (cfNs_on w hw) (C0.2.2.2.2.2.1 w (cfNs_in w hw)), va_AO.of (C0.2.2.2.2.2.1 _ tv_92)⟩
  obtain ⟨A, hAe⟩ : ∃ A : Nat → Prop, A = fun q : Nat => s.heap.size ≤ q := ⟨_, rfl⟩
  have hA : ∀ q : Nat, s.heap.size ≤ q → A q := fun q h => by rw [hAe]; exact h
  have hAr : ∀ q : Nat, A q → s.heap.size ≤ q := fun q h => by rw [hAe] at h; exact h
  have hX : xWd A s := by rw [hAe]; exact cf_xWd C0.2.2.2.2.2.1 C0.2.2.2.2.2.2.2.2.2
  have C1 : lwCx p l s m meth c b L sc A D cJ cB cI cF := ⟨C0, hl0, hWd, hK, hX, hA, hAr, hL⟩
  obtain ⟨hx, hb, hr, hml, hown, hts0, hXs, hbl, hlocks, hgv⟩ := C0
  have hts : ∀ w ∈ wsG, w.before #[Value.ref b] s = true := fun w h => hts0 w (wsG_in w h)
  have hown : s.vm.findClass "ColumnFormsLaw" = some m.cls := hown
  have hS : va_S A s.heap s.heap [] := va_S.rf
  have hP : va_P D vwCl [] s.heap := fun k q h => by simp at h
  have hD : va_D A [] := ⟨fun i j p q h => by simp at h, fun k q h => by simp at h⟩
  have hl := lv_entry ([.ref b]) (n := 8) (Nat.le_of_ble_eq_true rfl)
  rw [lg_entry_eq]
  generalize (lg_sl ([.ref b]) ++ List.replicate (8 - (lg_sl ([.ref b])).length) Slot.unset).toArray = ls at hl ⊢
  have hl : lv_has ls 8 [(0, .ref b)] := hl
  refine va_new (ci := 8) (fs := [.null, .null, .null, .int 0, .int 0]) (C := "ColumnForms") (T := TCf) (N := 5) hx hb hts inCf tyCf tyCf_ok hown (hts _ tw_22) (hts _ tw_23) (hts _ tw_1) hK hP hD hS hA rfl (fun j hj => by rcases (show j = 0 ∨ j = 1 ∨ j = 2 ∨ j = 3 ∨ j = 4 by omega) with rfl | rfl | rfl | rfl | rfl <;> rfl) (Nat.le_of_ble_eq_true rfl) (Nat.le_of_ble_eq_true rfl) dLaw_0 (fun q_1 H hP hD hS => ?_)
  have hP : va_P D vwCl [(q_1, .inr (8, [.null, .null, .null, .int (nI 0), .int (nI 0)]))] H := hP
  have hD : va_D A [(q_1, .inr (8, [.null, .null, .null, .int (nI 0), .int (nI 0)]))] := hD
  refine lv_dup hx hb dLaw_3 rfl ?_
  refine kc_v (wc := [(q_1, .inr (8, [.null, .null, .null, .int (nI 0), .int (nI 0)]))]) (wr := []) hP hD hS hA [0] [] rfl rfl (by decide) (by decide) (by decide) (fun hPc hDc => va_runI (As := []) (rest := [.ref q_1]) ⟨hx, hb, hml, hown, hts⟩ (c_cfI l D cJ cB cI cF q_1 _) (cwI 0 hts (wsG_c tw_26) rfl rfl rfl (hts _ tw_1) (hts _ tw_24) (hts _ tw_25) rfl (by decide +kernel) ⟨Nat.le_of_ble_eq_true rfl, Nat.le_of_ble_eq_true rfl⟩) ⟨cf_blind, cf_pre hPc hK hDc hWd⟩ rfl rfl hl.1 rfl (lv_room (Nat.le_of_ble_eq_true rfl)) dLaw_4 ⟨Nat.le_of_ble_eq_true rfl, Nat.le_of_ble_eq_true rfl⟩) (fun u H locs hw hP hD hS => ?_)
  obtain ⟨qr, qc, qs, qb, qo, qA, q0, q1, q2, qt, q3, q4⟩ := u
  have hP : va_P D vwCl [(q_1, .inr (8, [.ref qr, .ref qb, .ref qA, .int (-1), .int (nI 0)])), (qr, .inr (5, [.int (nI 0), .int (nI 0), .int (nI 0), .long 0, .long 0, .long 0, .long 0, .ref qc, .ref qs])), (qc, .inl (cJ, 1024, .inr (.inl (fun _ => 0)))), (qs, .inl (cJ, 1024, .inr (.inl (fun _ => 0)))), (qb, .inr (0, [.ref qo, .int (nI 0)])), (qo, .inl (cB, 0, .inl (fun _ => 0))), (qA, .inl (cF, 5, .inr (.inr (.inr (.inr (va_up (va_up (va_up (va_up (va_up (fun _ => none) 0 (some q0)) 1 (some q1)) 2 (some q2)) 3 (some q3)) 4 (some q4))))))), (q0, .inr (3, [])), (q1, .inr (2, [])), (q2, .inr (1, [.ref qt])), (q3, .inr (6, [])), (q4, .inr (7, [])), (qt, .inl (cI, 1024, .inl (fun _ => 0)))] H := hP
  have hD : va_D A [(q_1, .inr (8, [.ref qr, .ref qb, .ref qA, .int (-1), .int (nI 0)])), (qr, .inr (5, [.int (nI 0), .int (nI 0), .int (nI 0), .long 0, .long 0, .long 0, .long 0, .ref qc, .ref qs])), (qc, .inl (cJ, 1024, .inr (.inl (fun _ => 0)))), (qs, .inl (cJ, 1024, .inr (.inl (fun _ => 0)))), (qb, .inr (0, [.ref qo, .int (nI 0)])), (qo, .inl (cB, 0, .inl (fun _ => 0))), (qA, .inl (cF, 5, .inr (.inr (.inr (.inr (va_up (va_up (va_up (va_up (va_up (fun _ => none) 0 (some q0)) 1 (some q1)) 2 (some q2)) 3 (some q3)) 4 (some q4))))))), (q0, .inr (3, [])), (q1, .inr (2, [])), (q2, .inr (1, [.ref qt])), (q3, .inr (6, [])), (q4, .inr (7, [])), (qt, .inl (cI, 1024, .inl (fun _ => 0)))] := hD
  refine lv_astore_n (lv' := [(1, .ref q_1), (0, .ref b)]) hx hb dLaw_7 rfl hl (by decide) rfl (fun ls hl => ?_)
  refine va_new (ci := 9) (fs := [.int 0, .int 0, .null, .int 0, .int 0, .null, .int 0, .null, .int 0, .int 0, .null]) (C := "ColumnFormsModel") (T := TMo) (N := 11) hx hb hts inMo tyMo tyMo_ok hown (hts _ tw_583) (hts _ tw_584) (hts _ tw_10) hK hP hD hS hA rfl (fun j hj => by rcases (show j = 0 ∨ j = 1 ∨ j = 2 ∨ j = 3 ∨ j = 4 ∨ j = 5 ∨ j = 6 ∨ j = 7 ∨ j = 8 ∨ j = 9 ∨ j = 10 by omega) with rfl | rfl | rfl | rfl | rfl | rfl | rfl | rfl | rfl | rfl | rfl <;> rfl) (Nat.le_of_ble_eq_true rfl) (Nat.le_of_ble_eq_true rfl) dLaw_8 (fun q_2 H hP hD hS => ?_)
  have hP : va_P D vwCl [(q_1, .inr (8, [.ref qr, .ref qb, .ref qA, .int (-1), .int (nI 0)])), (qr, .inr (5, [.int (nI 0), .int (nI 0), .int (nI 0), .long 0, .long 0, .long 0, .long 0, .ref qc, .ref qs])), (qc, .inl (cJ, 1024, .inr (.inl (fun _ => 0)))), (qs, .inl (cJ, 1024, .inr (.inl (fun _ => 0)))), (qb, .inr (0, [.ref qo, .int (nI 0)])), (qo, .inl (cB, 0, .inl (fun _ => 0))), (qA, .inl (cF, 5, .inr (.inr (.inr (.inr (va_up (va_up (va_up (va_up (va_up (fun _ => none) 0 (some q0)) 1 (some q1)) 2 (some q2)) 3 (some q3)) 4 (some q4))))))), (q0, .inr (3, [])), (q1, .inr (2, [])), (q2, .inr (1, [.ref qt])), (q3, .inr (6, [])), (q4, .inr (7, [])), (qt, .inl (cI, 1024, .inl (fun _ => 0))), (q_2, .inr (9, [.int (nI 0), .int (nI 0), .null, .int (nI 0), .int (nI 0), .null, .int (nI 0), .null, .int (nI 0), .int (nI 0), .null]))] H := hP
  have hD : va_D A [(q_1, .inr (8, [.ref qr, .ref qb, .ref qA, .int (-1), .int (nI 0)])), (qr, .inr (5, [.int (nI 0), .int (nI 0), .int (nI 0), .long 0, .long 0, .long 0, .long 0, .ref qc, .ref qs])), (qc, .inl (cJ, 1024, .inr (.inl (fun _ => 0)))), (qs, .inl (cJ, 1024, .inr (.inl (fun _ => 0)))), (qb, .inr (0, [.ref qo, .int (nI 0)])), (qo, .inl (cB, 0, .inl (fun _ => 0))), (qA, .inl (cF, 5, .inr (.inr (.inr (.inr (va_up (va_up (va_up (va_up (va_up (fun _ => none) 0 (some q0)) 1 (some q1)) 2 (some q2)) 3 (some q3)) 4 (some q4))))))), (q0, .inr (3, [])), (q1, .inr (2, [])), (q2, .inr (1, [.ref qt])), (q3, .inr (6, [])), (q4, .inr (7, [])), (qt, .inl (cI, 1024, .inl (fun _ => 0))), (q_2, .inr (9, [.int (nI 0), .int (nI 0), .null, .int (nI 0), .int (nI 0), .null, .int (nI 0), .null, .int (nI 0), .int (nI 0), .null]))] := hD
  refine lv_dup hx hb dLaw_11 rfl ?_
  refine kc_v (wc := [(q_2, .inr (9, [.int (nI 0), .int (nI 0), .null, .int (nI 0), .int (nI 0), .null, .int (nI 0), .null, .int (nI 0), .int (nI 0), .null]))]) (wr := [(q_1, .inr (8, [.ref qr, .ref qb, .ref qA, .int (-1), .int (nI 0)])), (qr, .inr (5, [.int (nI 0), .int (nI 0), .int (nI 0), .long 0, .long 0, .long 0, .long 0, .ref qc, .ref qs])), (qc, .inl (cJ, 1024, .inr (.inl (fun _ => 0)))), (qs, .inl (cJ, 1024, .inr (.inl (fun _ => 0)))), (qb, .inr (0, [.ref qo, .int (nI 0)])), (qo, .inl (cB, 0, .inl (fun _ => 0))), (qA, .inl (cF, 5, .inr (.inr (.inr (.inr (va_up (va_up (va_up (va_up (va_up (fun _ => none) 0 (some q0)) 1 (some q1)) 2 (some q2)) 3 (some q3)) 4 (some q4))))))), (q0, .inr (3, [])), (q1, .inr (2, [])), (q2, .inr (1, [.ref qt])), (q3, .inr (6, [])), (q4, .inr (7, [])), (qt, .inl (cI, 1024, .inl (fun _ => 0)))]) hP hD hS hA [13] [0, 1, 2, 3, 4, 5, 6, 7, 8, 9, 10, 11, 12] rfl rfl (by decide) (by decide) (by decide) (fun hPc hDc => va_runI (As := []) (rest := [.ref q_2]) ⟨hx, hb, hml, hown, hts⟩ (m_init l D cJ cB cI cF q_2 _) (cwI 0 hts (wsG_c tw_587) rfl rfl rfl (hts _ tw_10) (hts _ tw_585) (hts _ tw_586) rfl (by decide +kernel) ⟨Nat.le_of_ble_eq_true rfl, Nat.le_of_ble_eq_true rfl⟩) ⟨cf_blind, cf_pre hPc hK hDc hWd⟩ rfl rfl hl.1 rfl (lv_room (Nat.le_of_ble_eq_true rfl)) dLaw_12 ⟨Nat.le_of_ble_eq_true rfl, Nat.le_of_ble_eq_true rfl⟩) (fun u H locs hw hP hD hS => ?_)
  obtain ⟨qmr, qmc, qmb, qml⟩ := u
  have hP : va_P D vwCl [(q_1, .inr (8, [.ref qr, .ref qb, .ref qA, .int (-1), .int (nI 0)])), (qr, .inr (5, [.int (nI 0), .int (nI 0), .int (nI 0), .long 0, .long 0, .long 0, .long 0, .ref qc, .ref qs])), (qc, .inl (cJ, 1024, .inr (.inl (fun _ => 0)))), (qs, .inl (cJ, 1024, .inr (.inl (fun _ => 0)))), (qb, .inr (0, [.ref qo, .int (nI 0)])), (qo, .inl (cB, 0, .inl (fun _ => 0))), (qA, .inl (cF, 5, .inr (.inr (.inr (.inr (va_up (va_up (va_up (va_up (va_up (fun _ => none) 0 (some q0)) 1 (some q1)) 2 (some q2)) 3 (some q3)) 4 (some q4))))))), (q0, .inr (3, [])), (q1, .inr (2, [])), (q2, .inr (1, [.ref qt])), (q3, .inr (6, [])), (q4, .inr (7, [])), (qt, .inl (cI, 1024, .inl (fun _ => 0))), (q_2, .inr (9, [.int (nI 0), .int (nI 0), .ref qmr, .int (-1), .int (nI 0), .ref qmc, .int (nI 0), .ref qmb, .int (nI 0), .int (nI 0), .ref qml])), (qmr, .inl (cJ, 1024, .inr (.inl (fun _ => 0)))), (qmc, .inl (cJ, 1024, .inr (.inl (fun _ => 0)))), (qmb, .inl (cI, 10400, .inl (fun _ => 0))), (qml, .inl (cJ, 1024, .inr (.inl (fun _ => 0))))] H := hP
  have hD : va_D A [(q_1, .inr (8, [.ref qr, .ref qb, .ref qA, .int (-1), .int (nI 0)])), (qr, .inr (5, [.int (nI 0), .int (nI 0), .int (nI 0), .long 0, .long 0, .long 0, .long 0, .ref qc, .ref qs])), (qc, .inl (cJ, 1024, .inr (.inl (fun _ => 0)))), (qs, .inl (cJ, 1024, .inr (.inl (fun _ => 0)))), (qb, .inr (0, [.ref qo, .int (nI 0)])), (qo, .inl (cB, 0, .inl (fun _ => 0))), (qA, .inl (cF, 5, .inr (.inr (.inr (.inr (va_up (va_up (va_up (va_up (va_up (fun _ => none) 0 (some q0)) 1 (some q1)) 2 (some q2)) 3 (some q3)) 4 (some q4))))))), (q0, .inr (3, [])), (q1, .inr (2, [])), (q2, .inr (1, [.ref qt])), (q3, .inr (6, [])), (q4, .inr (7, [])), (qt, .inl (cI, 1024, .inl (fun _ => 0))), (q_2, .inr (9, [.int (nI 0), .int (nI 0), .ref qmr, .int (-1), .int (nI 0), .ref qmc, .int (nI 0), .ref qmb, .int (nI 0), .int (nI 0), .ref qml])), (qmr, .inl (cJ, 1024, .inr (.inl (fun _ => 0)))), (qmc, .inl (cJ, 1024, .inr (.inl (fun _ => 0)))), (qmb, .inl (cI, 10400, .inl (fun _ => 0))), (qml, .inl (cJ, 1024, .inr (.inl (fun _ => 0))))] := hD
  refine lv_astore_n (lv' := [(2, .ref q_2), (1, .ref q_1), (0, .ref b)]) hx hb dLaw_15 rfl hl (by decide) rfl (fun ls hl => ?_)
  refine lv_iconst (v := nI 1) hx hb dLaw_16 (by decide) ?_
  refine nw_long hx hb (hts _ tw_76) hK hP hD hS hA 0 rfl 1 (by omega) (Nat.le_of_ble_eq_true rfl) (Nat.le_of_ble_eq_true rfl) dLaw_17 (fun q_3 H hP hD hS => ?_)
  have hP : va_P D vwCl [(q_1, .inr (8, [.ref qr, .ref qb, .ref qA, .int (-1), .int (nI 0)])), (qr, .inr (5, [.int (nI 0), .int (nI 0), .int (nI 0), .long 0, .long 0, .long 0, .long 0, .ref qc, .ref qs])), (qc, .inl (cJ, 1024, .inr (.inl (fun _ => 0)))), (qs, .inl (cJ, 1024, .inr (.inl (fun _ => 0)))), (qb, .inr (0, [.ref qo, .int (nI 0)])), (qo, .inl (cB, 0, .inl (fun _ => 0))), (qA, .inl (cF, 5, .inr (.inr (.inr (.inr (va_up (va_up (va_up (va_up (va_up (fun _ => none) 0 (some q0)) 1 (some q1)) 2 (some q2)) 3 (some q3)) 4 (some q4))))))), (q0, .inr (3, [])), (q1, .inr (2, [])), (q2, .inr (1, [.ref qt])), (q3, .inr (6, [])), (q4, .inr (7, [])), (qt, .inl (cI, 1024, .inl (fun _ => 0))), (q_2, .inr (9, [.int (nI 0), .int (nI 0), .ref qmr, .int (-1), .int (nI 0), .ref qmc, .int (nI 0), .ref qmb, .int (nI 0), .int (nI 0), .ref qml])), (qmr, .inl (cJ, 1024, .inr (.inl (fun _ => 0)))), (qmc, .inl (cJ, 1024, .inr (.inl (fun _ => 0)))), (qmb, .inl (cI, 10400, .inl (fun _ => 0))), (qml, .inl (cJ, 1024, .inr (.inl (fun _ => 0)))), (q_3, .inl (cJ, 1, .inr (.inl (fun _ => 0))))] H := hP
  have hD : va_D A [(q_1, .inr (8, [.ref qr, .ref qb, .ref qA, .int (-1), .int (nI 0)])), (qr, .inr (5, [.int (nI 0), .int (nI 0), .int (nI 0), .long 0, .long 0, .long 0, .long 0, .ref qc, .ref qs])), (qc, .inl (cJ, 1024, .inr (.inl (fun _ => 0)))), (qs, .inl (cJ, 1024, .inr (.inl (fun _ => 0)))), (qb, .inr (0, [.ref qo, .int (nI 0)])), (qo, .inl (cB, 0, .inl (fun _ => 0))), (qA, .inl (cF, 5, .inr (.inr (.inr (.inr (va_up (va_up (va_up (va_up (va_up (fun _ => none) 0 (some q0)) 1 (some q1)) 2 (some q2)) 3 (some q3)) 4 (some q4))))))), (q0, .inr (3, [])), (q1, .inr (2, [])), (q2, .inr (1, [.ref qt])), (q3, .inr (6, [])), (q4, .inr (7, [])), (qt, .inl (cI, 1024, .inl (fun _ => 0))), (q_2, .inr (9, [.int (nI 0), .int (nI 0), .ref qmr, .int (-1), .int (nI 0), .ref qmc, .int (nI 0), .ref qmb, .int (nI 0), .int (nI 0), .ref qml])), (qmr, .inl (cJ, 1024, .inr (.inl (fun _ => 0)))), (qmc, .inl (cJ, 1024, .inr (.inl (fun _ => 0)))), (qmb, .inl (cI, 10400, .inl (fun _ => 0))), (qml, .inl (cJ, 1024, .inr (.inl (fun _ => 0)))), (q_3, .inl (cJ, 1, .inr (.inl (fun _ => 0))))] := hD
  refine lv_astore_n (lv' := [(3, .ref q_3), (2, .ref q_2), (1, .ref q_1), (0, .ref b)]) hx hb dLaw_19 rfl hl (by decide) rfl (fun ls hl => ?_)
  refine lv_iconst (v := nI 0) hx hb dLaw_20 (by decide) ?_
  refine lv_istore (lv' := [(4, .int (nI 0)), (3, .ref q_3), (2, .ref q_2), (1, .ref q_1), (0, .ref b)]) hx hb dLaw_21 hl (by decide) rfl (fun ls hl => ?_)
  exact lp_N C1 (L + 1) 0 (Nat.zero_le L) (by omega) q_1 qr qc qs qb qo qA (va_up (va_up (va_up (va_up (va_up (fun _ => none) 0 (some q0)) 1 (some q1)) 2 (some q2)) 3 (some q3)) 4 (some q4)) q0 q1 q2 q3 q4 qt (fun _ => 0) 0 0 0 0 0 0 0 (fun _ => 0) (fun _ => 0) (fun _ => 0) q_3 (fun _ => 0) q_2 qmr qmc qmb qml (nI 0) 0 (fun _ => 0) (fun _ => 0) (fun _ => 0) _ _ _ _ _ ⟨rfl, rfl, rfl, rfl, rfl⟩ (rAll_0 _ _ _ _ _ _) (hP.sub [0, 1, 2, 3, 4, 5, 6, 7, 8, 9, 10, 11, 12, 18, 13, 14, 15, 16, 17] rfl) (hD.sub [0, 1, 2, 3, 4, 5, 6, 7, 8, 9, 10, 11, 12, 18, 13, 14, 15, 16, 17] (by decide) rfl) hS (lv_sub hl [4, 3, 2, 1, 0] rfl) (by decide) (by decide)

