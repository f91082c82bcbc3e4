theorem fm_of {α β : Type} {f : α → Option β} : ∀ {l : List α} {w : List β}, l.map f = w.map some → l.filterMap f = w
  | [], [], _ => rfl
  | [], _ :: _, h => nomatch h
  | _ :: _, [], h => nomatch h
  | a :: l, b :: w, h => by
    obtain ⟨h1, h2⟩ := List.cons.inj h
    rw [List.filterMap_cons, h1, fm_of h2]
/-! words that no list of a method may hold: links inside the nest, abstract methods, casts, the array class of forms -/
def cfNs : List Cond := cfN1.map (fun q => Cond.methodLinkNest q.1 q.2.1 q.2.2.1 q.2.2.2) ++ (cfN2.map (fun x => Cond.declares x) ++ cfN3.map (fun q => Cond.castable q.1 q.2))
def cfWd (s : State) : Prop := (∀ w ∈ cfNs, va_Nw w s) ∧ va_AO cfFm s
theorem cfNs_on : ∀ w ∈ cfNs, w.onTables = true := fun w hw => by
  rcases List.mem_append.mp hw with h | h
  · obtain ⟨q, -, rfl⟩ := List.mem_map.mp h; rfl
  · rcases List.mem_append.mp h with h | h
    · obtain ⟨q, -, rfl⟩ := List.mem_map.mp h; rfl
    · obtain ⟨q, -, rfl⟩ := List.mem_map.mp h; rfl
theorem cfWd.same {u U : State} (h : u.vm = U.vm) (hz : cfWd u) : cfWd U := ⟨fun w hw => va_Nw.same (cfNs_on w hw) h (hz.1 w hw), va_AO.moved (by rw [h]; exact Vm.Alike.refl U.vm) hz.2⟩
theorem cfWd.warm {s U : State} (hW : s.WarmedH U.vm) (hz : cfWd s) : cfWd U := ⟨fun w hw => by
  have h9 := hz.1 w hw
  rcases List.mem_append.mp hw with h | h
  · obtain ⟨q, -, rfl⟩ := List.mem_map.mp h; exact va_Nw.warmM hW h9
  · rcases List.mem_append.mp h with h | h
    · obtain ⟨q, -, rfl⟩ := List.mem_map.mp h; exact va_Nw.warmD hW h9
    · obtain ⟨q, -, rfl⟩ := List.mem_map.mp h; exact va_Nw.warmC hW h9, va_AO.moved hW.alike hz.2⟩
theorem cfWd.nest {s : State} (h : cfWd s) {own : String} {i : Nat} {y : MethodName} {host : String} (k : Nat) (hk : cfN1[k]? = some (own, i, y, host)) : va_Nw (.methodLinkNest own i y host) s := h.1 _ (List.mem_append_left _ (List.mem_map.mpr ⟨_, List.mem_of_getElem? hk, rfl⟩))
theorem cfWd.decl {s : State} (h : cfWd s) {x : MethodName} (k : Nat) (hk : cfN2[k]? = some x) : va_Nw (.declares x) s := h.1 _ (List.mem_append_right _ (List.mem_append_left _ (List.mem_map.mpr ⟨_, List.mem_of_getElem? hk, rfl⟩)))
theorem cfWd.cast {s : State} (h : cfWd s) {C E : String} (k : Nat) (hk : cfN3[k]? = some (C, E)) : va_Nw (.castable C E) s := h.1 _ (List.mem_append_right _ (List.mem_append_right _ (List.mem_map.mpr ⟨_, List.mem_of_getElem? hk, rfl⟩)))
/-! the array classes: longs, bytes, ints, forms -/
abbrev cfT (cJ cB cI cF : ClassId) : List (ClassId × FieldType) := [(cJ, .long), (cB, .byte), (cI, .int), (cF, .object cfFm)]
/-! contracts' start and end -/
def cfPre (D : va_G) (T : List (ClassId × FieldType)) (ws : va_W) (sz : Nat) (U : State) : Prop := U.heap.size = sz ∧ va_P D vwCl ws U.heap ∧ va_K D vwCl T U ∧ va_D (fun _ => True) ws ∧ cfWd U
def cfPost (D : va_G) (ws : va_W) (A : Nat → Prop) (t : State) : Prop := va_P D vwCl ws t.heap ∧ va_D A ws
theorem cf_blind {av : List Value} {D : va_G} {T : List (ClassId × FieldType)} {ws : va_W} {sz : Nat} : FrameBlind (va_Pc av (cfPre D T ws sz)) := fun a U g mk q => by
  obtain ⟨q0, q1, qP, qK, qD, qW⟩ := q
  exact ⟨q0, q1, qP, va_K.moved (u := U) (U := U.calling g mk a) (Vm.Alike.refl U.vm) qK, qD, cfWd.same (u := U) (U := U.calling g mk a) rfl qW⟩
theorem cf_pre {s : State} {H : Heap} {D : va_G} {T : List (ClassId × FieldType)} {ws : va_W} {A : Nat → Prop} {av : List Value} (hP : va_P D vwCl ws H) (hK : va_K D vwCl T s) (hD : va_D A ws) (hW : cfWd s) : ∀ U : State, U.heap = H → s.WarmedH U.vm → va_Pc av (cfPre D T ws H.size) av.toArray U := fun U hU hw => ⟨rfl, by rw [hU], by rw [hU]; exact hP, va_K.moved hw.alike hK, hD.weaken (fun _ _ _ _ => trivial), cfWd.warm hw hW⟩
theorem met_i {l : Launch} {y : MethodName} {rm : Room} {cc : ByteArray} {maxL : Nat} {S : Type} {D : va_G} {T : List (ClassId × FieldType)} {w0 : va_W} {sz : Nat} {av : List Value} {post : Int32 → S → Prop} {wO : S → va_W} {mc ms : Nat}
    (hy : plainName y.cls = true) (hn : (lg_sl av).length ≤ maxL)
    (body : ∀ (p : Program) (e : Env) (s : State) (m : MethodId) (below : List Frame) (meth : Method) (c : Code), p.tables.exec = Jvm.exec → c.code = cc → c.maxLocals = maxL → s.vm.findClass y.cls = some m.cls → (∀ w ∈ wsG, w.before av.toArray s = true) → meth.locks = false → meth.name = y.name → cfWd s → ∀ (A : Nat → Prop), (∀ q : Nat, s.heap.size ≤ q → A q) → s.heap.size = sz → va_P D vwCl w0 s.heap → va_K D vwCl T s → va_D A w0 → va_S A s.heap s.heap [] → ∀ (Q : State → Prop),
      (∀ (r : Int32) (u : S) (H : Heap) (locs : List Loc) (pc : Nat) (ls : Array Slot) (cells slots : Nat), post r u → va_P D vwCl (wO u) H → va_D A (wO u) → va_S A s.heap H locs → cells ≤ mc → slots ≤ ms → decode cc pc = .ok (.ireturn, 1) → W p l e rm s m av.toArray below meth c H locs cells slots Q (F0 m pc ls [.int r])) →
      ∀ ls : Array Slot, lv_has ls maxL (lv_args 0 av) → W p l e rm s m av.toArray below meth c s.heap [] 0 0 Q (F0 m 0 ls [])) :
    Met l y (Cond.code y cc maxL (some .int) :: wsG) rm (va_Pc av (cfPre D T w0 sz)) (va_Qi post (fun u t => cfPost D (wO u) (va_A w0 sz) t) (va_A w0 sz)) mc ms (va_A w0 sz) := by
  refine Met.ofW (cc := cc) (maxL := maxL) (ret := some .int) hy rfl ?_
  intro p e s m args below meth c s₁ B hml hv
  obtain ⟨rfl, hsz, hP, hK, hD0, hW⟩ := hv
  have hts : ∀ w ∈ wsG, w.before av.toArray s = true := fun w h => atoms_spec (ws := Cond.code y cc maxL (some .int) :: wsG) B.pre w (List.mem_cons_of_mem _ h)
  have hown : s.vm.findClass y.cls = some m.cls := findClass_of_methodNamed B.named
  have hin : meth.name = y.name := (name_of_methodNamed B.named B.method).1
  subst hsz
  have hD := hD0.self (sz := s.heap.size)
  have hl := lv_entry av (n := maxL) hn
  rw [lg_entry_eq]
  generalize (lg_sl av ++ List.replicate (maxL - (lg_sl av).length) Slot.unset).toArray = ls at hl ⊢
  exact body p e s m below meth c B.exec B.bytes hml hown hts B.notSynchronized hin hW (va_A w0 s.heap.size) (fun q h => Or.inr h) rfl hP hK hD va_S.rf _ (fun r u H locs pc ls cells slots hp hP hD hS hc hs hd => W.widen hc hs (W.iret B.exec B.bytes B.returns (fun t ht hw => ⟨⟨r, u, rfl, hp, by rw [ht]; exact hP, hD⟩, hS.F ht⟩) hS.2.2 hd)) ls hl
theorem met_l {l : Launch} {y : MethodName} {rm : Room} {cc : ByteArray} {maxL : Nat} {S : Type} {D : va_G} {T : List (ClassId × FieldType)} {w0 : va_W} {sz : Nat} {av : List Value} {post : Int64 → S → Prop} {wO : S → va_W} {mc ms : Nat}
    (hy : plainName y.cls = true) (hn : (lg_sl av).length ≤ maxL)
    (body : ∀ (p : Program) (e : Env) (s : State) (m : MethodId) (below : List Frame) (meth : Method) (c : Code), p.tables.exec = Jvm.exec → c.code = cc → c.maxLocals = maxL → s.vm.findClass y.cls = some m.cls → (∀ w ∈ wsG, w.before av.toArray s = true) → meth.locks = false → meth.name = y.name → cfWd s → ∀ (A : Nat → Prop), (∀ q : Nat, s.heap.size ≤ q → A q) → s.heap.size = sz → va_P D vwCl w0 s.heap → va_K D vwCl T s → va_D A w0 → va_S A s.heap s.heap [] → ∀ (Q : State → Prop),
      (∀ (r : Int64) (u : S) (H : Heap) (locs : List Loc) (pc : Nat) (ls : Array Slot) (cells slots : Nat), post r u → va_P D vwCl (wO u) H → va_D A (wO u) → va_S A s.heap H locs → cells ≤ mc → slots ≤ ms → decode cc pc = .ok (.lreturn, 1) → W p l e rm s m av.toArray below meth c H locs cells slots Q (F0 m pc ls [.long r])) →
      ∀ ls : Array Slot, lv_has ls maxL (lv_args 0 av) → W p l e rm s m av.toArray below meth c s.heap [] 0 0 Q (F0 m 0 ls [])) :
    Met l y (Cond.code y cc maxL (some .long) :: wsG) rm (va_Pc av (cfPre D T w0 sz)) (va_Ql post (fun u t => cfPost D (wO u) (va_A w0 sz) t) (va_A w0 sz)) mc ms (va_A w0 sz) := by
  refine Met.ofW (cc := cc) (maxL := maxL) (ret := some .long) hy rfl ?_
  intro p e s m args below meth c s₁ B hml hv
  obtain ⟨rfl, hsz, hP, hK, hD0, hW⟩ := hv
  have hts : ∀ w ∈ wsG, w.before av.toArray s = true := fun w h => atoms_spec (ws := Cond.code y cc maxL (some .long) :: wsG) B.pre w (List.mem_cons_of_mem _ h)
  have hown : s.vm.findClass y.cls = some m.cls := findClass_of_methodNamed B.named
  have hin : meth.name = y.name := (name_of_methodNamed B.named B.method).1
  subst hsz
  have hD := hD0.self (sz := s.heap.size)
  have hl := lv_entry av (n := maxL) hn
  rw [lg_entry_eq]
  generalize (lg_sl av ++ List.replicate (maxL - (lg_sl av).length) Slot.unset).toArray = ls at hl ⊢
  exact body p e s m below meth c B.exec B.bytes hml hown hts B.notSynchronized hin hW (va_A w0 s.heap.size) (fun q h => Or.inr h) rfl hP hK hD va_S.rf _ (fun r u H locs pc ls cells slots hp hP hD hS hc hs hd => W.widen hc hs (W.lret B.exec B.bytes B.returns (fun t ht hw => ⟨⟨r, u, rfl, hp, by rw [ht]; exact hP, hD⟩, hS.F ht⟩) hS.2.2 hd)) ls hl
theorem met_v {l : Launch} {y : MethodName} {rm : Room} {cc : ByteArray} {maxL : Nat} {S : Type} {D : va_G} {T : List (ClassId × FieldType)} {w0 : va_W} {sz : Nat} {av : List Value} {post : S → Prop} {wO : S → va_W} {mc ms : Nat}
    (hy : plainName y.cls = true) (hn : (lg_sl av).length ≤ maxL)
    (body : ∀ (p : Program) (e : Env) (s : State) (m : MethodId) (below : List Frame) (meth : Method) (c : Code), p.tables.exec = Jvm.exec → c.code = cc → c.maxLocals = maxL → s.vm.findClass y.cls = some m.cls → (∀ w ∈ wsG, w.before av.toArray s = true) → meth.locks = false → meth.name = y.name → cfWd s → ∀ (A : Nat → Prop), (∀ q : Nat, s.heap.size ≤ q → A q) → s.heap.size = sz → va_P D vwCl w0 s.heap → va_K D vwCl T s → va_D A w0 → va_S A s.heap s.heap [] → ∀ (Q : State → Prop),
      (∀ (u : S) (H : Heap) (locs : List Loc) (pc : Nat) (ls : Array Slot) (cells slots : Nat), post u → va_P D vwCl (wO u) H → va_D A (wO u) → va_S A s.heap H locs → cells ≤ mc → slots ≤ ms → decode cc pc = .ok (.return_, 1) → W p l e rm s m av.toArray below meth c H locs cells slots Q (F0 m pc ls [])) →
      ∀ ls : Array Slot, lv_has ls maxL (lv_args 0 av) → W p l e rm s m av.toArray below meth c s.heap [] 0 0 Q (F0 m 0 ls [])) :
    Met l y (Cond.code y cc maxL (none) :: wsG) rm (va_Pc av (cfPre D T w0 sz)) (va_Qv post (fun u t => cfPost D (wO u) (va_A w0 sz) t) (va_A w0 sz)) mc ms (va_A w0 sz) := by
  refine Met.ofW (cc := cc) (maxL := maxL) (ret := none) hy rfl ?_
  intro p e s m args below meth c s₁ B hml hv
  obtain ⟨rfl, hsz, hP, hK, hD0, hW⟩ := hv
  have hts : ∀ w ∈ wsG, w.before av.toArray s = true := fun w h => atoms_spec (ws := Cond.code y cc maxL (none) :: wsG) B.pre w (List.mem_cons_of_mem _ h)
  have hown : s.vm.findClass y.cls = some m.cls := findClass_of_methodNamed B.named
  have hin : meth.name = y.name := (name_of_methodNamed B.named B.method).1
  subst hsz
  have hD := hD0.self (sz := s.heap.size)
  have hl := lv_entry av (n := maxL) hn
  rw [lg_entry_eq]
  generalize (lg_sl av ++ List.replicate (maxL - (lg_sl av).length) Slot.unset).toArray = ls at hl ⊢
  exact body p e s m below meth c B.exec B.bytes hml hown hts B.notSynchronized hin hW (va_A w0 s.heap.size) (fun q h => Or.inr h) rfl hP hK hD va_S.rf _ (fun u H locs pc ls cells slots hp hP hD hS hc hs hd => W.widen hc hs (W.vret B.exec B.bytes B.returns (fun t ht hw => ⟨⟨u, rfl, hp, by rw [ht]; exact hP, hD⟩, hS.F ht⟩) hS.2.2 hd)) ls hl
theorem met_z {l : Launch} {y : MethodName} {rm : Room} {cc : ByteArray} {maxL : Nat} {S : Type} {D : va_G} {T : List (ClassId × FieldType)} {w0 : va_W} {sz : Nat} {av : List Value} {post : Int32 → S → Prop} {wO : S → va_W} {mc ms : Nat}
    (hy : plainName y.cls = true) (hn : (lg_sl av).length ≤ maxL)
    (body : ∀ (p : Program) (e : Env) (s : State) (m : MethodId) (below : List Frame) (meth : Method) (c : Code), p.tables.exec = Jvm.exec → c.code = cc → c.maxLocals = maxL → s.vm.findClass y.cls = some m.cls → (∀ w ∈ wsG, w.before av.toArray s = true) → meth.locks = false → meth.name = y.name → cfWd s → ∀ (A : Nat → Prop), (∀ q : Nat, s.heap.size ≤ q → A q) → s.heap.size = sz → va_P D vwCl w0 s.heap → va_K D vwCl T s → va_D A w0 → va_S A s.heap s.heap [] → ∀ (Q : State → Prop),
      (∀ (r : Int32) (u : S) (H : Heap) (locs : List Loc) (pc : Nat) (ls : Array Slot) (cells slots : Nat), post r u → va_P D vwCl (wO u) H → va_D A (wO u) → va_S A s.heap H locs → cells ≤ mc → slots ≤ ms → narrow .boolean (.int r) = .int r → decode cc pc = .ok (.ireturn, 1) → W p l e rm s m av.toArray below meth c H locs cells slots Q (F0 m pc ls [.int r])) →
      ∀ ls : Array Slot, lv_has ls maxL (lv_args 0 av) → W p l e rm s m av.toArray below meth c s.heap [] 0 0 Q (F0 m 0 ls [])) :
    Met l y (Cond.code y cc maxL (some .boolean) :: wsG) rm (va_Pc av (cfPre D T w0 sz)) (va_Qi post (fun u t => cfPost D (wO u) (va_A w0 sz) t) (va_A w0 sz)) mc ms (va_A w0 sz) := by
  refine Met.ofW (cc := cc) (maxL := maxL) (ret := some .boolean) hy rfl ?_
  intro p e s m args below meth c s₁ B hml hv
  obtain ⟨rfl, hsz, hP, hK, hD0, hW⟩ := hv
  have hts : ∀ w ∈ wsG, w.before av.toArray s = true := fun w h => atoms_spec (ws := Cond.code y cc maxL (some .boolean) :: wsG) B.pre w (List.mem_cons_of_mem _ h)
  have hown : s.vm.findClass y.cls = some m.cls := findClass_of_methodNamed B.named
  have hin : meth.name = y.name := (name_of_methodNamed B.named B.method).1
  subst hsz
  have hD := hD0.self (sz := s.heap.size)
  have hl := lv_entry av (n := maxL) hn
  rw [lg_entry_eq]
  generalize (lg_sl av ++ List.replicate (maxL - (lg_sl av).length) Slot.unset).toArray = ls at hl ⊢
  exact body p e s m below meth c B.exec B.bytes hml hown hts B.notSynchronized hin hW (va_A w0 s.heap.size) (fun q h => Or.inr h) rfl hP hK hD va_S.rf _ (fun r u H locs pc ls cells slots hp hP hD hS hc hs hnr hd => W.widen hc hs (W.zret B.exec B.bytes B.returns hnr (fun t ht hw => ⟨⟨r, u, rfl, hp, by rw [ht]; exact hP, hD⟩, hS.F ht⟩) hS.2.2 hd)) ls hl
theorem kc_i {p : Program} {l : Launch} {e : Env} {R : Room} {s : State} {m : MethodId} {args : Array Value} {below : List Frame} {meth : Method} {c : Code} {H : Heap} {locs : List Loc} {cells slots : Nat} {Q : State → Prop} {D : va_G} {ws wc wr : va_W} {A : Nat → Prop} {H0 : Heap} {mc ms pc : Nat} {ls : Array Slot} {st0 rest : List Value} {a : Array Value} {S : Type} {post : Int32 → S → Prop} {wO : S → va_W}
    (hP : va_P D vwCl ws H) (hD : va_D A ws) (hS : va_S A H0 H locs) (hA : ∀ q : Nat, H0.size ≤ q → A q) (isC isR : List Nat) (hC : isC.map (fun i => ws[i]?) = wc.map some) (hR : isR.map (fun i => ws[i]?) = wr.map some) (hnc : va_nd isC = true) (hn : va_nd isR = true) (hdis : ∀ i ∈ isR, i ∉ isC)
    (hr : va_P D vwCl wc H → va_D A wc → va_Run p l e R s m args below meth c H locs cells slots mc ms (F0 m pc ls st0) rest (va_Qi post (fun u t => cfPost D (wO u) (va_A wc H.size) t) (va_A wc H.size) a) (va_A wc H.size))
    (kk : ∀ (r : Int32) (u : S) (H1 : Heap) (locs1 : List Loc), post r u → va_P D vwCl (wr ++ wO u) H1 → va_D A (wr ++ wO u) → va_S A H0 H1 locs1 → W p l e R s m args below meth c H1 locs1 (cells + mc) (slots + ms) Q (F0 m (pc + 3) ls (.int r :: rest))) : W p l e R s m args below meth c H locs cells slots Q (F0 m pc ls st0) := by
  have hFc := va_free (wc := wc) hD hS hA isC hC
  refine va_calli (hr (hP.sub isC (fm_of hC)) (hD.sub isC hnc hC)) hS (fun q _ h => hFc q h) hFc (fun r u t H1 locs1 ht hvm hw hB hz1 hk1 hS1 => ?_)
  obtain ⟨hP1, hD1⟩ := hB
  rw [ht] at hP1
  obtain ⟨hP2, hD2⟩ := va_join (wr := wr) (w1 := wO u) hP hD isC isR hC hR hn hdis hk1 hFc hP1 hD1
  exact kk r u H1 locs1 hw hP2 hD2 hS1
theorem kc_l {p : Program} {l : Launch} {e : Env} {R : Room} {s : State} {m : MethodId} {args : Array Value} {below : List Frame} {meth : Method} {c : Code} {H : Heap} {locs : List Loc} {cells slots : Nat} {Q : State → Prop} {D : va_G} {ws wc wr : va_W} {A : Nat → Prop} {H0 : Heap} {mc ms pc : Nat} {ls : Array Slot} {st0 rest : List Value} {a : Array Value} {S : Type} {post : Int64 → S → Prop} {wO : S → va_W}
    (hP : va_P D vwCl ws H) (hD : va_D A ws) (hS : va_S A H0 H locs) (hA : ∀ q : Nat, H0.size ≤ q → A q) (isC isR : List Nat) (hC : isC.map (fun i => ws[i]?) = wc.map some) (hR : isR.map (fun i => ws[i]?) = wr.map some) (hnc : va_nd isC = true) (hn : va_nd isR = true) (hdis : ∀ i ∈ isR, i ∉ isC)
    (hr : va_P D vwCl wc H → va_D A wc → va_Run p l e R s m args below meth c H locs cells slots mc ms (F0 m pc ls st0) rest (va_Ql post (fun u t => cfPost D (wO u) (va_A wc H.size) t) (va_A wc H.size) a) (va_A wc H.size))
    (kk : ∀ (r : Int64) (u : S) (H1 : Heap) (locs1 : List Loc), post r u → va_P D vwCl (wr ++ wO u) H1 → va_D A (wr ++ wO u) → va_S A H0 H1 locs1 → W p l e R s m args below meth c H1 locs1 (cells + mc) (slots + ms) Q (F0 m (pc + 3) ls (.long r :: rest))) : W p l e R s m args below meth c H locs cells slots Q (F0 m pc ls st0) := by
  have hFc := va_free (wc := wc) hD hS hA isC hC
  refine va_calll (hr (hP.sub isC (fm_of hC)) (hD.sub isC hnc hC)) hS (fun q _ h => hFc q h) hFc (fun r u t H1 locs1 ht hvm hw hB hz1 hk1 hS1 => ?_)
  obtain ⟨hP1, hD1⟩ := hB
  rw [ht] at hP1
  obtain ⟨hP2, hD2⟩ := va_join (wr := wr) (w1 := wO u) hP hD isC isR hC hR hn hdis hk1 hFc hP1 hD1
  exact kk r u H1 locs1 hw hP2 hD2 hS1
theorem kc_v {p : Program} {l : Launch} {e : Env} {R : Room} {s : State} {m : MethodId} {args : Array Value} {below : List Frame} {meth : Method} {c : Code} {H : Heap} {locs : List Loc} {cells slots : Nat} {Q : State → Prop} {D : va_G} {ws wc wr : va_W} {A : Nat → Prop} {H0 : Heap} {mc ms pc : Nat} {ls : Array Slot} {st0 rest : List Value} {a : Array Value} {S : Type} {post : S → Prop} {wO : S → va_W}
    (hP : va_P D vwCl ws H) (hD : va_D A ws) (hS : va_S A H0 H locs) (hA : ∀ q : Nat, H0.size ≤ q → A q) (isC isR : List Nat) (hC : isC.map (fun i => ws[i]?) = wc.map some) (hR : isR.map (fun i => ws[i]?) = wr.map some) (hnc : va_nd isC = true) (hn : va_nd isR = true) (hdis : ∀ i ∈ isR, i ∉ isC)
    (hr : va_P D vwCl wc H → va_D A wc → va_Run p l e R s m args below meth c H locs cells slots mc ms (F0 m pc ls st0) rest (va_Qv post (fun u t => cfPost D (wO u) (va_A wc H.size) t) (va_A wc H.size) a) (va_A wc H.size))
    (kk : ∀ (u : S) (H1 : Heap) (locs1 : List Loc), post u → va_P D vwCl (wr ++ wO u) H1 → va_D A (wr ++ wO u) → va_S A H0 H1 locs1 → W p l e R s m args below meth c H1 locs1 (cells + mc) (slots + ms) Q (F0 m (pc + 3) ls (rest))) : W p l e R s m args below meth c H locs cells slots Q (F0 m pc ls st0) := by
  have hFc := va_free (wc := wc) hD hS hA isC hC
  refine va_callv (hr (hP.sub isC (fm_of hC)) (hD.sub isC hnc hC)) hS (fun q _ h => hFc q h) hFc (fun u t H1 locs1 ht hvm hw hB hz1 hk1 hS1 => ?_)
  obtain ⟨hP1, hD1⟩ := hB
  rw [ht] at hP1
  obtain ⟨hP2, hD2⟩ := va_join (wr := wr) (w1 := wO u) hP hD isC isR hC hR hn hdis hk1 hFc hP1 hD1
  exact kk u H1 locs1 hw hP2 hD2 hS1
theorem tp_i {p : Program} {l : Launch} {e : Env} {R : Room} {s : State} {m : MethodId} {args : Array Value} {below : List Frame} {meth : Method} {c : Code} {H : Heap} {locs : List Loc} {cells slots : Nat} {Q : State → Prop} {pc : Nat} {ls : Array Slot} {rest : List Value} {x y : Int32} (h : x = y) (k : W p l e R s m args below meth c H locs cells slots Q (F0 m pc ls (.int y :: rest))) : W p l e R s m args below meth c H locs cells slots Q (F0 m pc ls (.int x :: rest)) := by
  rw [h]; exact k
theorem tp_l {p : Program} {l : Launch} {e : Env} {R : Room} {s : State} {m : MethodId} {args : Array Value} {below : List Frame} {meth : Method} {c : Code} {H : Heap} {locs : List Loc} {cells slots : Nat} {Q : State → Prop} {pc : Nat} {ls : Array Slot} {rest : List Value} {x y : Int64} (h : x = y) (k : W p l e R s m args below meth c H locs cells slots Q (F0 m pc ls (.long y :: rest))) : W p l e R s m args below meth c H locs cells slots Q (F0 m pc ls (.long x :: rest)) := by
  rw [h]; exact k
theorem tp_v {p : Program} {l : Launch} {e : Env} {R : Room} {s : State} {m : MethodId} {args : Array Value} {below : List Frame} {meth : Method} {c : Code} {H : Heap} {locs : List Loc} {cells slots : Nat} {Q : State → Prop} {pc : Nat} {ls : Array Slot} {rest : List Value} {x y : Value} (h : x = y) (k : W p l e R s m args below meth c H locs cells slots Q (F0 m pc ls (y :: rest))) : W p l e R s m args below meth c H locs cells slots Q (F0 m pc ls (x :: rest)) := by
  rw [h]; exact k
theorem nw_long {p : Program} {l : Launch} {e : Env} {R : Room} {s : State} {m : MethodId} {args : Array Value} {below : List Frame} {meth : Method} {c : Code} {H : Heap} {locs : List Loc} {cells slots : Nat} {Q : State → Prop} {cc : ByteArray} {pc : Nat} {ls : Array Slot} {rest : List Value} {D : va_G} {T : List (ClassId × FieldType)} {ws : va_W} {A : Nat → Prop} {H0 : Heap} (hexec : p.tables.exec = Jvm.exec) (hb : c.code = cc) (harr : (Cond.arrayClass .long).before args s = true) (hK : va_K D vwCl T s) (hP : va_P D vwCl ws H) (hD : va_D A ws) (hS : va_S A H0 H locs) (hA : ∀ q : Nat, H0.size ≤ q → A q) (t0 : Nat) {cA : ClassId} (ht : T[t0]? = some (cA, .long))
    (N : Nat) (hN : N < 2 ^ 24) (hcells : cells + 1 ≤ R.cells) (hslots : slots + N ≤ R.slots) (hdg : decode cc pc = .ok (.newarray .long, 2))
    (kk : ∀ (q : Nat) (H1 : Heap), va_P D vwCl (ws ++ [(q, .inl (cA, N, .inr (.inl (fun _ => 0))))]) H1 → va_D A (ws ++ [(q, .inl (cA, N, .inr (.inl (fun _ => 0))))]) → va_S A H0 H1 locs → W p l e R s m args below meth c H1 locs (cells + 1) (slots + N) Q (F0 m (pc + 2) ls (.ref q :: rest))) : W p l e R s m args below meth c H locs cells slots Q (F0 m pc ls (.int (nI N) :: rest)) := by
  refine va_newa (atype := .long) (ty := .long) (a0 := (N, .inr (.inl (fun _ => 0)))) (N' := N) hexec hb harr rfl hK hP hD hS hA (fun cA => rfl) (nI_pos (by omega)) (nI_clamp (by omega)) (by show N * 8 ≤ _; omega) hcells hslots hdg (fun q cA' H1 hK' hP' hD' hS' => ?_)
  have h1 := va_nm_long ((hK'.2 T.length (cA', .long) (by simp)).2)
  have h2 := va_nm_long ((hK.2 t0 _ ht).2)
  cases Option.some.inj (h1.symm.trans h2)
  exact kk q H1 hP' hD' hS' 
theorem nw_int {p : Program} {l : Launch} {e : Env} {R : Room} {s : State} {m : MethodId} {args : Array Value} {below : List Frame} {meth : Method} {c : Code} {H : Heap} {locs : List Loc} {cells slots : Nat} {Q : State → Prop} {cc : ByteArray} {pc : Nat} {ls : Array Slot} {rest : List Value} {D : va_G} {T : List (ClassId × FieldType)} {ws : va_W} {A : Nat → Prop} {H0 : Heap} (hexec : p.tables.exec = Jvm.exec) (hb : c.code = cc) (harr : (Cond.arrayClass .int).before args s = true) (hK : va_K D vwCl T s) (hP : va_P D vwCl ws H) (hD : va_D A ws) (hS : va_S A H0 H locs) (hA : ∀ q : Nat, H0.size ≤ q → A q) (t0 : Nat) {cA : ClassId} (ht : T[t0]? = some (cA, .int))
    (N : Nat) (hN : N < 2 ^ 24) (hcells : cells + 1 ≤ R.cells) (hslots : slots + N ≤ R.slots) (hdg : decode cc pc = .ok (.newarray .int, 2))
    (kk : ∀ (q : Nat) (H1 : Heap), va_P D vwCl (ws ++ [(q, .inl (cA, N, .inl (fun _ => 0)))]) H1 → va_D A (ws ++ [(q, .inl (cA, N, .inl (fun _ => 0)))]) → va_S A H0 H1 locs → W p l e R s m args below meth c H1 locs (cells + 1) (slots + N) Q (F0 m (pc + 2) ls (.ref q :: rest))) : W p l e R s m args below meth c H locs cells slots Q (F0 m pc ls (.int (nI N) :: rest)) := by
  refine va_newa (atype := .int) (ty := .int) (a0 := (N, .inl (fun _ => 0))) (N' := N) hexec hb harr rfl hK hP hD hS hA (fun cA => rfl) (nI_pos (by omega)) (nI_clamp (by omega)) (by show N * 4 ≤ _; omega) hcells hslots hdg (fun q cA' H1 hK' hP' hD' hS' => ?_)
  have h1 := va_nm_int ((hK'.2 T.length (cA', .int) (by simp)).2)
  have h2 := va_nm_int ((hK.2 t0 _ ht).2)
  cases Option.some.inj (h1.symm.trans h2)
  exact kk q H1 hP' hD' hS' 
theorem nw_byte {p : Program} {l : Launch} {e : Env} {R : Room} {s : State} {m : MethodId} {args : Array Value} {below : List Frame} {meth : Method} {c : Code} {H : Heap} {locs : List Loc} {cells slots : Nat} {Q : State → Prop} {cc : ByteArray} {pc : Nat} {ls : Array Slot} {rest : List Value} {D : va_G} {T : List (ClassId × FieldType)} {ws : va_W} {A : Nat → Prop} {H0 : Heap} (hexec : p.tables.exec = Jvm.exec) (hb : c.code = cc) (harr : (Cond.arrayClass .byte).before args s = true) (hK : va_K D vwCl T s) (hP : va_P D vwCl ws H) (hD : va_D A ws) (hS : va_S A H0 H locs) (hA : ∀ q : Nat, H0.size ≤ q → A q) (t0 : Nat) {cA : ClassId} (ht : T[t0]? = some (cA, .byte))
    (N : Nat) (hN : N < 2 ^ 24) (hcells : cells + 1 ≤ R.cells) (hslots : slots + N ≤ R.slots) (hdg : decode cc pc = .ok (.newarray .byte, 2))
    (kk : ∀ (q : Nat) (H1 : Heap), va_P D vwCl (ws ++ [(q, .inl (cA, N, .inl (fun _ => 0)))]) H1 → va_D A (ws ++ [(q, .inl (cA, N, .inl (fun _ => 0)))]) → va_S A H0 H1 locs → W p l e R s m args below meth c H1 locs (cells + 1) (slots + N) Q (F0 m (pc + 2) ls (.ref q :: rest))) : W p l e R s m args below meth c H locs cells slots Q (F0 m pc ls (.int (nI N) :: rest)) := by
  refine va_newa (atype := .byte) (ty := .byte) (a0 := (N, .inl (fun _ => 0))) (N' := N) hexec hb harr rfl hK hP hD hS hA (fun cA => rfl) (nI_pos (by omega)) (nI_clamp (by omega)) (by show N * 1 ≤ _; omega) hcells hslots hdg (fun q cA' H1 hK' hP' hD' hS' => ?_)
  have h1 := va_nm_byte ((hK'.2 T.length (cA', .byte) (by simp)).2)
  have h2 := va_nm_byte ((hK.2 t0 _ ht).2)
  cases Option.some.inj (h1.symm.trans h2)
  exact kk q H1 hP' hD' hS' 
