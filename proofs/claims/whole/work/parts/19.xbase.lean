/-! throws: what the machine's tables and two statics say; contracts that throw; the law's helpers -/
abbrev cfISE : String := "java/lang/IllegalStateException"
abbrev cfIAE : String := "java/lang/IllegalArgumentException"
abbrev cfXn : List String := ["java/lang/RuntimeException", "java/lang/Exception"]
def cfStr : List (Nat × String) := [(56, "the row is full"), (67, "n is not 1 .. 1024"), (70, "the row would have too many cells"), (128, "the form is not 0 .. 4"), (130, "the row is empty"), (96, "there is no such byte"), (101, "there is no such cell"), (107, "kind is not 0 .. 3"), (132, "there is no column")]
def xWd (A : Nat → Prop) (U : State) : Prop := vx_Zq Jvm.Bundle.tN "UNASSIGNED_STACK" Jvm.Bundle.steD A U U.heap ∧ vx_Zq Jvm.Bundle.tN "SUPPRESSED_SENTINEL" Jvm.Bundle.listD A U U.heap ∧ (∀ q ∈ cfStr, ∃ a, vk_R "ColumnForms" q.1 q.2 a U) ∧ va_Nc cfISE cfIAE U
theorem xWd.same {A : Nat → Prop} {u U : State} (h : U.vm = u.vm) (hh : U.heap = u.heap) (hz : xWd A u) : xWd A U := by
  obtain ⟨z1, z2, z3, z4⟩ := hz
  have ha : u.vm.Alike U.vm := by rw [h]; exact Vm.Alike.refl u.vm
  refine ⟨?_, ?_, fun q hq => ?_, va_Nc.moved ha z4⟩
  · rw [hh]; exact vx_Zq.moved ha z1
  · rw [hh]; exact vx_Zq.moved ha z2
  · obtain ⟨a, ha⟩ := z3 q hq
    exact ⟨a, vk_R.same h ha⟩
theorem xWd.go {A B : Nat → Prop} {s U : State} {H : Heap} {locs : List Loc} (hW : s.WarmedH U.vm) (hU : U.heap = H) (hS : va_S A s.heap H locs) (hB : ∀ q, B q → A q) (hz : xWd A s) : xWd B U := by
  obtain ⟨z1, z2, z3, z4⟩ := hz
  refine ⟨?_, ?_, fun q hq => ?_, va_Nc.moved hW.alike z4⟩
  · rw [hU]; exact vx_Zq.narrow (vx_Zq.moved hW.alike (vx_Zq.kept z1 hS.2.1)) hB
  · rw [hU]; exact vx_Zq.narrow (vx_Zq.moved hW.alike (vx_Zq.kept z2 hS.2.1)) hB
  · obtain ⟨a, ha⟩ := z3 q hq
    exact ⟨a, vk_R.warm hW ha⟩
def cfPreX (D : va_G) (T : List (ClassId × FieldType)) (ws : va_W) (sz : Nat) (U : State) : Prop := cfPre D T ws sz U ∧ xWd (va_A ws sz) U
theorem cf_blindX {av : List Value} {D : va_G} {T : List (ClassId × FieldType)} {ws : va_W} {sz : Nat} : FrameBlind (va_Pc av (cfPreX D T ws sz)) := fun a U g mk q => by
  obtain ⟨q0, q1, q2⟩ := q
  obtain ⟨r0, r1⟩ := cf_blind (av := av) (D := D) (T := T) (ws := ws) (sz := sz) a U g mk ⟨q0, q1⟩
  exact ⟨r0, r1, xWd.same (u := U) (U := U.calling g mk a) rfl rfl q2⟩
theorem cf_preX {s : State} {H : Heap} {locs : List Loc} {D : va_G} {T : List (ClassId × FieldType)} {ws : va_W} {A : Nat → Prop} {av : List Value} (hP : va_P D vwCl ws H) (hK : va_K D vwCl T s) (hD : va_D A ws) (hW : cfWd s) (hX : xWd A s) (hS : va_S A s.heap H locs) (hF : ∀ q, va_A ws H.size q → A q) : ∀ U : State, U.heap = H → s.WarmedH U.vm → va_Pc av (cfPreX D T ws H.size) av.toArray U := fun U hU hw => by
  obtain ⟨r0, r1⟩ := cf_pre (av := av) hP hK hD hW U hU hw
  exact ⟨r0, r1, xWd.go hw hU hS hF hX⟩
/-- E0 is thrown, the world stays -/
def cfX (E0 : String) (D : va_G) (ws : va_W) (A : Nat → Prop) : String → State → State → Prop := vx_X (fun _ : Unit => True) (fun E _ t => E = E0 ∧ cfPost D ws A t) A
def cfNo : Array Value → State → Outcome → State → Prop := fun _ _ _ _ => False
theorem metx {l : Launch} {y : MethodName} {rm : Room} {cc : ByteArray} {maxL : Nat} {ret : Option FieldType} {D : va_G} {T : List (ClassId × FieldType)} {w0 : va_W} {sz : Nat} {av : List Value} {E0 : String} {mc ms : Nat}
    (hy : plainName y.cls = true) (hn : (lg_sl av).length ≤ maxL)
    (body : ∀ (p : Program) (e : Env) (s : State) (m : MethodId) (below : List Frame) (meth : Method) (c : Code), p.tables.exec = Jvm.exec → c.code = cc → c.maxLocals = maxL → s.vm.findClass y.cls = some m.cls → (∀ w ∈ wsG, w.before av.toArray s = true) → meth.locks = false → meth.name = y.name → cfWd s → (∀ x ∈ c.exceptionTable.toList, False) → ∀ (A : Nat → Prop), (∀ q : Nat, s.heap.size ≤ q → A q) → s.heap.size = sz → va_P D vwCl w0 s.heap → va_K D vwCl T s → va_D A w0 → va_S A s.heap s.heap [] → xWd A s →
      ∀ ls : Array Slot, lv_has ls maxL (lv_args 0 av) → W p l e rm s m av.toArray below meth c s.heap [] 0 0 (vx_MQ below cfNo (cfX E0 D w0 A) av.toArray s mc ms A) (F0 m 0 ls [])) :
    vx_Met l y (Cond.code y cc maxL ret :: wsG) rm (va_Pc av (cfPreX D T w0 sz)) cfNo (cfX E0 D w0 (va_A w0 sz)) mc ms (va_A w0 sz) := by
  refine vx_ofW (cc := cc) (maxL := maxL) (ret := ret) hy rfl ?_
  intro p e s m args below meth c s₁ B hml ht hv
  obtain ⟨rfl, ⟨hsz, hP, hK, hD0, hW⟩, hX⟩ := hv
  have hts : ∀ w ∈ wsG, w.before av.toArray s = true := fun w h => atoms_spec (ws := Cond.code y cc maxL ret :: wsG) B.pre w (List.mem_cons_of_mem _ h)
  have hown : s.vm.findClass y.cls = some m.cls := findClass_of_methodNamed B.named
  have hin : meth.name = y.name := (name_of_methodNamed B.named B.method).1
  subst hsz
  have hD := hD0.self (sz := s.heap.size)
  have hl := lv_entry av (n := maxL) hn
  rw [lg_entry_eq]
  generalize (lg_sl av ++ List.replicate (maxL - (lg_sl av).length) Slot.unset).toArray = ls at hl ⊢
  exact body p e s m below meth c B.exec B.bytes hml hown hts B.notSynchronized hin hW ht (va_A w0 s.heap.size) (fun q h => Or.inr h) rfl hP hK hD va_S.rf hX ls hl
theorem cfX_end {E0 : String} {D : va_G} {ws : va_W} {A : Nat → Prop} {s t : State} {H : Heap} {locs : List Loc} (hP : va_P D vwCl ws H) (hD : va_D A ws) (hS : va_S A s.heap H locs) (h1 : H.size ≤ t.heap.size) (h2 : ∀ q : Nat, q < H.size → t.heap[q]? = H[q]?) : cfX E0 D ws A E0 s t :=
  ⟨(), trivial, ⟨rfl, hP.kept (fun k q hk => h2 q.1 (vx_lt hP hk)), hD⟩, Nat.le_trans hS.1 h1, fun q g1 g2 => by rw [h2 q (Nat.lt_of_lt_of_le g1 hS.1)]; exact hS.2.1 q g1 g2⟩
theorem thr_S {p : Program} {l : Launch} {e : Env} {R : Room} {s : State} {m : MethodId} {args : Array Value} {below : List Frame} {meth : Method} {c : Code} {H : Heap} {locs : List Loc} {cells slots : Nat} {Q : State → Prop} {pc : Nat} {ls : Array Slot} {rest : List Value} {D : va_G} {w0 : va_W} {A : Nat → Prop} {cc : ByteArray} {E0 text : String} {ik is ic mc ms : Nat} (hexec : p.tables.exec = Jvm.exec) (hb : c.code = cc) (hl0 : l.stackTraces = false) (hown : s.vm.findClass "ColumnForms" = some m.cls) (hts : ∀ w ∈ wsG, w.before args s = true) (hWd : cfWd s) (hX : xWd A s) (hfit : Jvm.Bundle.fit E0 = true)
    (hik : Cond.classLink "ColumnForms" ik E0 ∈ wsG) (hini : Cond.initialized E0 ∈ wsG) (hat : ∀ w ∈ vx_atS "ColumnForms" ic E0 cfXn, w ∈ wsG ∨ w ∈ cfNs) (kx : Nat) (hst : cfStr[kx]? = some (is, text)) (hP : va_P D vwCl w0 H) (hD : va_D A w0) (hS : va_S A s.heap H locs) (hsize : ls.size = c.maxLocals)
    (d0 : decode cc pc = .ok (.new ik, 3)) (d3 : decode cc (pc + 3) = .ok (.dup, 1)) (d4 : decode cc (pc + 4) = .ok (.ldc is, 2)) (d6 : decode cc (pc + 6) = .ok (.invokespecial ic, 3)) (d9 : decode cc (pc + 9) = .ok (.athrow, 1))
    (ht : ∀ x ∈ c.exceptionTable.toList, False) (hRframes : 5 < R.frames) (hRlocals : (rest.map fun v => v.category).sum + 82 ≤ R.locals) (hRcells : cells + 1 ≤ R.cells) (hRslots : slots + 6 ≤ R.slots) (hlocks : meth.locks = false) (hc : cells + 1 ≤ mc) (hs : slots + 6 ≤ ms) :
    W p l e R s m args below meth c H locs cells slots (vx_MQ below cfNo (cfX E0 D w0 A) args s mc ms A) (F0 m pc ls rest) := by
  obtain ⟨z1, z2, z3, z4⟩ := hX
  obtain ⟨sa, hsa⟩ := z3 _ (List.mem_of_getElem? hst)
  have hg : ∀ w, w ∈ wsG ∨ w ∈ cfNs → vx_ot w = true ∧ w.before args s = true := fun w hw => by
    rcases hw with h | h
    · exact ⟨by unfold vx_ot; rw [(List.mem_filter.mp h).2, Bool.or_true], hts w h⟩
    · exact ⟨by unfold vx_ot; rw [cfNs_on w h, Bool.true_or], va_Nw.use (cfNs_on w h) (hWd.1 w h)⟩
  refine vx_throwS (names := cfXn) (sa := sa) hexec hb hl0 hown hfit (by decide +kernel) (hts _ hik) (hts _ hini) hsa (fun w hw => (hg w (hat w hw)).2) (fun w hw => ?_) z1 z2 hS hsize d0 d3 d4 d6 d9 (fun x hx => (ht x hx).elim) hRframes hRlocals hRcells hRslots hlocks (fun t _ h1 h2 => cfX_end hP hD hS h1 h2) hS.2.2 hc hs
  rcases List.mem_cons.mp hw with rfl | hw
  · exact (hg _ (Or.inl hik)).1
  rcases List.mem_cons.mp hw with rfl | hw
  · exact (hg _ (Or.inl hini)).1
  exact (hg w (hat w hw)).1
set_option maxRecDepth 20000 in
theorem at_ISE : ∀ w ∈ vx_atS "ColumnForms" 58 cfISE cfXn, w ∈ wsG ∨ w ∈ cfNs := by decide +kernel
set_option maxRecDepth 20000 in
theorem at_IAE : ∀ w ∈ vx_atS "ColumnForms" 69 cfIAE cfXn, w ∈ wsG ∨ w ∈ cfNs := by decide +kernel
/-- not caught here: it goes on -/
theorem out_S {p : Program} {l : Launch} {e : Env} {R : Room} {s : State} {m : MethodId} {args : Array Value} {below : List Frame} {meth : Method} {c : Code} {H : Heap} {locs : List Loc} {cells slots : Nat} {Q : State → Prop} {pc : Nat} {ls : Array Slot} {rest : List Value} {D : va_G} {w0 : va_W} {A : Nat → Prop} {E0 : String} {ce : Cell} {q : Addr} {mc ms : Nat} (ht : ∀ x ∈ c.exceptionTable.toList, False) (hlocks : meth.locks = false) (hP : va_P D vwCl w0 H) (hD : va_D A w0) (hS : va_S A s.heap H locs) (hce : H[q]? = some ce) (hv : ce.vm = .none) (hcl : s.vm.findClass E0 = some ce.cls) (hc : cells ≤ mc) (hs : slots ≤ ms) :
    vx_W p l e R s m args below meth c H locs cells slots (vx_MQ below cfNo (cfX E0 D w0 A) args s mc ms A) (F0 m pc ls rest) q :=
  vx_out (fun x hx => (ht x hx).elim) hlocks hce hv hcl (fun t hT _ => cfX_end hP hD hS (by rw [hT]; exact Nat.le_refl _) (fun q _ => by rw [hT])) hS.2.2 hc hs
/-- a call that throws E0 -/
theorem kcx {p : Program} {l : Launch} {e : Env} {R : Room} {s : State} {m : MethodId} {args : Array Value} {below : List Frame} {meth : Method} {c : Code} {H : Heap} {locs : List Loc} {cells slots : Nat} {Q : State → Prop} {D : va_G} {ws wc wr : va_W} {A : Nat → Prop} {H0 : Heap} {mc ms pc : Nat} {ls : Array Slot} {st0 rest : List Value} {E0 : String} {a : Array Value}
    (hP : va_P D vwCl ws H) (hD : va_D A ws) (hS : va_S A H0 H locs) (hA : ∀ q : Nat, H0.size ≤ q → A q) (isC isR : List Nat) (hC : isC.map (fun i => ws[i]?) = wc.map some) (hR : isR.map (fun i => ws[i]?) = wr.map some) (hnc : va_nd isC = true) (hn : va_nd isR = true) (hdis : ∀ i ∈ isR, i ∉ isC)
    (hr : va_P D vwCl wc H → va_D A wc → (∀ q, va_A wc H.size q → A q) → vx_Run p l e R s m args below meth c H locs cells slots mc ms (F0 m pc ls st0) rest (cfNo a) (cfX E0 D wc (va_A wc H.size)) (va_A wc H.size))
    (kx : ∀ (ce : Cell) (q9 : Addr) (H1 : Heap) (locs1 : List Loc), va_P D vwCl (wr ++ wc) H1 → va_D A (wr ++ wc) → va_S A H0 H1 locs1 → H1[q9]? = some ce → ce.vm = .none → s.vm.findClass E0 = some ce.cls → vx_W p l e R s m args below meth c H1 locs1 (cells + mc) (slots + ms) Q (F0 m pc ls rest) q9) : W p l e R s m args below meth c H locs cells slots Q (F0 m pc ls st0) := by
  have hFc := va_free (wc := wc) hD hS hA isC hC
  intro T hT X
  rcases hr (hP.sub isC (fm_of hC)) (hD.sub isC hnc hC) hFc T hT X with ⟨v, st₀, t, T', L, h0, X', hL, e1, e2, hq, st⟩ | ⟨q, st₀, t, T', L, E, ce, h0, X', hL, e1, e2, ⟨u, -, ⟨rfl, hP1, hD1⟩, hF⟩, hce, hcv, hcl, st⟩
  · exact hq.elim
  · obtain ⟨k1, k2, k3⟩ := vx_keep h0 e1 hS (fun q _ h => hFc q h) hFc hL hF
    rw [← e1] at hP1
    obtain ⟨hP2, hD2⟩ := va_join (wr := wr) (w1 := wc) hP hD isC isR hC hR hn hdis k2 hFc hP1 hD1
    obtain ⟨t2, a1, b1⟩ := kx ce q T'.heap (locs ++ L) hP2 hD2 k3 (by rw [e1]; exact hce) hcv hcl T' rfl X'
    exact ⟨t2, st.trans a1, b1⟩
def xNo : String → State → State → Prop := fun _ _ _ => False
/-- a helper of the law (a method with handlers): it returns r, the world is wO u behind it -/
theorem meth_i {l : Launch} {y : MethodName} {rm : Room} {cc : ByteArray} {maxL : Nat} {hh : List (Nat × Nat × Nat × Nat)} {S : Type} {D : va_G} {T : List (ClassId × FieldType)} {w0 : va_W} {sz : Nat} {av : List Value} {post : Int32 → S → Prop} {wO : S → va_W} {mc ms : Nat}
    (hy : plainName y.cls = true) (hn : (lg_sl av).length ≤ maxL)
    (body : ∀ (p : Program) (e : Env) (s : State) (m : MethodId) (below : List Frame) (meth : Method) (c : Code), p.tables.exec = Jvm.exec → c.code = cc → c.maxLocals = maxL → s.vm.findClass y.cls = some m.cls → (∀ w ∈ wsG, w.before av.toArray s = true) → meth.locks = false → meth.name = y.name → cfWd s → c.exceptionTable.toList = tableOf hh → ∀ (A : Nat → Prop), (∀ q : Nat, s.heap.size ≤ q → A q) → s.heap.size = sz → va_P D vwCl w0 s.heap → va_K D vwCl T s → va_D A w0 → va_S A s.heap s.heap [] → xWd A s → ∀ (Q : State → Prop),
      (∀ (r : Int32) (u : S) (H : Heap) (locs : List Loc) (pc : Nat) (ls : Array Slot) (cells slots : Nat), post r u → va_P D vwCl (wO u) H → va_D A (wO u) → va_S A s.heap H locs → cells ≤ mc → slots ≤ ms → decode cc pc = .ok (.ireturn, 1) → W p l e rm s m av.toArray below meth c H locs cells slots Q (F0 m pc ls [.int r])) →
      ∀ ls : Array Slot, lv_has ls maxL (lv_args 0 av) → W p l e rm s m av.toArray below meth c s.heap [] 0 0 Q (F0 m 0 ls [])) :
    vx_Met l y (Cond.codeWith y cc maxL (some .int) hh :: wsG) rm (va_Pc av (cfPreX D T w0 sz)) (va_Qi post (fun u t => cfPost D (wO u) (va_A w0 sz) t) (va_A w0 sz)) xNo mc ms (va_A w0 sz) := by
  refine vx_ofWH (cc := cc) (maxL := maxL) (ret := some .int) (hh := hh) hy rfl ?_
  intro p e s m args below meth c s₁ B hml hv
  obtain ⟨rfl, ⟨hsz, hP, hK, hD0, hW⟩, hX⟩ := hv
  have hts : ∀ w ∈ wsG, w.before av.toArray s = true := fun w h => atoms_spec (ws := Cond.codeWith y cc maxL (some .int) hh :: wsG) B.pre w (List.mem_cons_of_mem _ h)
  have hown : s.vm.findClass y.cls = some m.cls := findClass_of_methodNamed B.named
  have hin : meth.name = y.name := (name_of_methodNamed B.named B.method).1
  have htb : c.exceptionTable.toList = tableOf hh := vx_table (x := y) B (atoms_spec (ws := Cond.codeWith y cc maxL (some .int) hh :: wsG) B.pre _ List.mem_cons_self)
  subst hsz
  have hD := hD0.self (sz := s.heap.size)
  have hl := lv_entry av (n := maxL) hn
  rw [lg_entry_eq]
  generalize (lg_sl av ++ List.replicate (maxL - (lg_sl av).length) Slot.unset).toArray = ls at hl ⊢
  exact body p e s m below meth c B.exec B.bytes hml hown hts B.notSynchronized hin hW htb (va_A w0 s.heap.size) (fun q h => Or.inr h) rfl hP hK hD va_S.rf hX _ (fun r u H locs pc ls cells slots hp hP hD hS hc hs hd => W.widen hc hs (vx_ret (W.iret B.exec B.bytes B.returns (fun t ht hw => ⟨⟨r, u, rfl, hp, by rw [ht]; exact hP, hD⟩, hS.F ht⟩) hS.2.2 hd))) ls hl
/-- a call of such a helper -/
theorem kch_i {p : Program} {l : Launch} {e : Env} {R : Room} {s : State} {m : MethodId} {args : Array Value} {below : List Frame} {meth : Method} {c : Code} {H : Heap} {locs : List Loc} {cells slots : Nat} {Q : State → Prop} {D : va_G} {ws wc wr : va_W} {A : Nat → Prop} {H0 : Heap} {mc ms pc : Nat} {ls : Array Slot} {st0 rest : List Value} {a : Array Value} {S : Type} {post : Int32 → S → Prop} {wO : S → va_W}
    (hP : va_P D vwCl ws H) (hD : va_D A ws) (hS : va_S A H0 H locs) (hA : ∀ q : Nat, H0.size ≤ q → A q) (isC isR : List Nat) (hC : isC.map (fun i => ws[i]?) = wc.map some) (hR : isR.map (fun i => ws[i]?) = wr.map some) (hnc : va_nd isC = true) (hn : va_nd isR = true) (hdis : ∀ i ∈ isR, i ∉ isC)
    (hr : va_P D vwCl wc H → va_D A wc → (∀ q, va_A wc H.size q → A q) → vx_Run p l e R s m args below meth c H locs cells slots mc ms (F0 m pc ls st0) rest (va_Qi post (fun u t => cfPost D (wO u) (va_A wc H.size) t) (va_A wc H.size) a) xNo (va_A wc H.size))
    (kk : ∀ (r : Int32) (u : S) (H1 : Heap) (locs1 : List Loc), post r u → va_P D vwCl (wr ++ wO u) H1 → va_D A (wr ++ wO u) → va_S A H0 H1 locs1 → W p l e R s m args below meth c H1 locs1 (cells + mc) (slots + ms) Q (F0 m (pc + 3) ls (.int r :: rest))) : W p l e R s m args below meth c H locs cells slots Q (F0 m pc ls st0) := by
  have hFc := va_free (wc := wc) hD hS hA isC hC
  intro T hT X
  rcases hr (hP.sub isC (fm_of hC)) (hD.sub isC hnc hC) hFc T hT X with ⟨v, st₀, t, T', L, h0, X', hL, e1, e2, ⟨⟨r, u, hv, hp, hP1, hD1⟩, hF⟩, st⟩ | ⟨q, st₀, t, T', L, E, ce, h0, X', hL, e1, e2, hq, hce, hcv, hcl, st⟩
  · cases hv
    obtain ⟨k1, k2, k3⟩ := vx_keep h0 e1 hS (fun q _ h => hFc q h) hFc hL hF
    rw [← e1] at hP1
    obtain ⟨hP2, hD2⟩ := va_join (wr := wr) (w1 := wO u) hP hD isC isR hC hR hn hdis k2 hFc hP1 hD1
    obtain ⟨t2, a1, b1⟩ := kk r u T'.heap (locs ++ L) hp hP2 hD2 k3 T' rfl X'
    exact ⟨t2, st t2 a1, b1⟩
  · exact hq.elim
