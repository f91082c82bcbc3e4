theorem nw_form {p : Program} {l : Launch} {e : Env} {R : Room} {s : State} {m : MethodId} {args : Array Value} {below : List Frame} {meth : Method} {c : Code} {H : Heap} {locs : List Loc} {cells slots : Nat} {Q : State → Prop} {cc : ByteArray} {pc : Nat} {ls : Array Slot} {rest : List Value} {D : va_G} {T : List (ClassId × FieldType)} {ws : va_W} {A : Nat → Prop} {H0 : Heap} (hexec : p.tables.exec = Jvm.exec) (hb : c.code = cc) {own : String} {index : Nat} (hown : s.vm.findClass own = some m.cls) (hclink : (Cond.classLink own index cfFm).before args s = true) (hover : va_AO cfFm s) (hK : va_K D vwCl T s) (hP : va_P D vwCl ws H) (hD : va_D A ws) (hS : va_S A H0 H locs) (hA : ∀ q : Nat, H0.size ≤ q → A q) (t0 : Nat) {cA : ClassId} (ht : T[t0]? = some (cA, .object cfFm))
    (N : Nat) (hN : N < 2 ^ 24) (hcells : cells + 1 ≤ R.cells) (hslots : slots + N ≤ R.slots) (hdg : decode cc pc = .ok (.anewarray index, 3))
    (kk : ∀ (q : Nat) (H1 : Heap), va_P D vwCl (ws ++ [(q, .inl (cA, N, .inr (.inr (.inr (.inr (fun _ => none))))))]) H1 → va_D A (ws ++ [(q, .inl (cA, N, .inr (.inr (.inr (.inr (fun _ => none))))))]) → va_S A H0 H1 locs → W p l e R s m args below meth c H1 locs (cells + 1) (slots + N) Q (F0 m (pc + 3) ls (.ref q :: rest))) : W p l e R s m args below meth c H locs cells slots Q (F0 m pc ls (.int (nI N) :: rest)) := by
  refine va_newq (N' := N) hexec hb hown hclink hover hK hP hD hS hA (nI_pos (by omega)) (nI_clamp (by omega)) (by omega) hcells hslots hdg (fun q cA' H1 hK' hP' hD' hS' => ?_)
  have h1 := va_nmO (C := cfFm) ((hK'.2 T.length (cA', .object cfFm) (by simp)).2) rfl
  have h2 := va_nmO (C := cfFm) ((hK.2 t0 _ ht).2) rfl
  cases Option.some.inj (h1.symm.trans h2)
  exact kk q H1 hP' hD' hS'
/-! the class as a whole: its forms, weights, the least of them, what is filled -/
def fOK (ff : Nat → Option Nat) (q0 q1 q2 q3 q4 : Nat) : Prop := ff 0 = some q0 ∧ ff 1 = some q1 ∧ ff 2 = some q2 ∧ ff 3 = some q3 ∧ ff 4 = some q4
def wGt (n d rn : Nat) (lo hi sl sh : Int64) : Nat → Nat
  | 0 => 8 * n
  | 1 => (72 + n * bln (uN (hi - lo)) + 7) / 8
  | 2 => (16 + 64 * d + n * bln (d - 1) + 7) / 8
  | 3 => (16 + 80 * rn + 7) / 8
  | _ => (136 + (n - 1) * bln (uN (sh - sl)) + 7) / 8
def bsP (wg : Nat → Nat) (f best : Nat) : Prop := best < f ∧ (∀ j, j < f → wg best ≤ wg j) ∧ (∀ j, j < best → wg best < wg j)
theorem bsP_1 (wg : Nat → Nat) : bsP wg 1 0 := ⟨by omega, fun j hj => by rw [show j = 0 by omega]; exact Nat.le_refl _, fun j hj => absurd hj (by omega)⟩
theorem bsP_y {wg : Nat → Nat} {f best : Nat} (h : bsP wg f best) (hw : wg f < wg best) : bsP wg (f + 1) f := ⟨by omega, fun j hj => by
  by_cases e : j = f
  · rw [e]; exact Nat.le_refl _
  · have := h.2.1 j (by omega); omega, fun j hj => by have := h.2.1 j hj; omega⟩
theorem bsP_n {wg : Nat → Nat} {f best : Nat} (h : bsP wg f best) (hw : ¬ wg f < wg best) : bsP wg (f + 1) best := ⟨by have := h.1; omega, fun j hj => by
  by_cases e : j = f
  · rw [e]; omega
  · exact h.2.1 j (by omega), h.2.2⟩
theorem bsP_un {wg : Nat → Nat} {f a b : Nat} (h : bsP wg f a) (g : bsP wg f b) : a = b := by
  rcases Nat.lt_trichotomy a b with q | q | q
  · have h1 := g.2.2 a q; have h2 := h.2.1 b g.1; omega
  · exact q
  · have h1 := h.2.2 b q; have h2 := g.2.1 a h.1; omega
def lF (k : Nat) (xs : Nat → Int64) (n bc : Nat) (B : Nat → Bool) : Prop := match k with
  | 0 => lP xs n bc B
  | 1 => lK xs n bc B
  | 2 => lL xs n bc B
  | 3 => lR xs n bc B
  | _ => lS xs n bc B
def fv (a st : Int64) : Nat → Int64
  | 0 => a
  | k + 1 => fv a st k + st
def flX (xs : Nat → Int64) (n : Nat) (a st : Int64) : Nat → Nat → Int64
  | 0 => xs
  | k + 1 => vp_updL (flX xs n a st k) (n + k) (fv a st k)
theorem rAll_0 (xs : Nat → Int64) (lo hi sl sh : Int64) (rs : Nat → Int64) : rAll xs 0 0 0 lo hi sl sh rs := ⟨by omega, rInv_0 xs rs, rfl, fun h => absurd h (by omega)⟩
