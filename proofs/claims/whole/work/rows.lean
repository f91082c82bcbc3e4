section
-- ===== PART A: goes FIRST, ahead of the names: the tables' words, and 'selects' of the private methods out of them =====
/-- a private method of a class that the tables say can be made, by its rows of tables_1 -/
def lw_okq (q : MethodName × Nat) : Prop := (q.1.cls ≠ "java/lang/invoke/MethodHandle" ∧ q.1.cls ≠ "java/lang/invoke/VarHandle") ∧ Cond.instantiable q.1.cls q.2 ∈ tables_1 ∧ Cond.privateMethod q.1 ∈ tables_1 ∧ Cond.instanceMethod q.1 ∈ tables_1
theorem lw_p0 : lw_okq (⟨"java/lang/Throwable", "fillInStackTrace", "(I)Ljava/lang/Throwable;"⟩, 6) := ⟨⟨by decide +kernel, by decide +kernel⟩, List.mem_of_getElem? (i := 220) (by decide +kernel), List.mem_of_getElem? (i := 218) (by decide +kernel), List.mem_of_getElem? (i := 219) (by decide +kernel)⟩
theorem lw_p1 : lw_okq (⟨"ColumnForms$Row", "noteFirst", "(J)V"⟩, 9) := ⟨⟨by decide +kernel, by decide +kernel⟩, List.mem_of_getElem? (i := 31) (by decide +kernel), List.mem_of_getElem? (i := 253) (by decide +kernel), List.mem_of_getElem? (i := 254) (by decide +kernel)⟩
theorem lw_p2 : lw_okq (⟨"ColumnForms$Row", "noteNext", "(JJ)V"⟩, 9) := ⟨⟨by decide +kernel, by decide +kernel⟩, List.mem_of_getElem? (i := 31) (by decide +kernel), List.mem_of_getElem? (i := 261) (by decide +kernel), List.mem_of_getElem? (i := 262) (by decide +kernel)⟩
theorem lw_p3 : lw_okq (⟨"ColumnForms$Row", "noteDifferent", "(JI)V"⟩, 9) := ⟨⟨by decide +kernel, by decide +kernel⟩, List.mem_of_getElem? (i := 31) (by decide +kernel), List.mem_of_getElem? (i := 279) (by decide +kernel), List.mem_of_getElem? (i := 280) (by decide +kernel)⟩
theorem lw_p4 : lw_okq (⟨"ColumnForms", "refuseEmptyRow", "()V"⟩, 5) := ⟨⟨by decide +kernel, by decide +kernel⟩, List.mem_of_getElem? (i := 23) (by decide +kernel), List.mem_of_getElem? (i := 322) (by decide +kernel), List.mem_of_getElem? (i := 323) (by decide +kernel)⟩
theorem lw_p5 : lw_okq (⟨"ColumnForms", "lightestForm", "()I"⟩, 5) := ⟨⟨by decide +kernel, by decide +kernel⟩, List.mem_of_getElem? (i := 23) (by decide +kernel), List.mem_of_getElem? (i := 377) (by decide +kernel), List.mem_of_getElem? (i := 378) (by decide +kernel)⟩
theorem lw_p6 : lw_okq (⟨"ColumnForms", "writeRow", "(I)I"⟩, 5) := ⟨⟨by decide +kernel, by decide +kernel⟩, List.mem_of_getElem? (i := 23) (by decide +kernel), List.mem_of_getElem? (i := 381) (by decide +kernel), List.mem_of_getElem? (i := 382) (by decide +kernel)⟩
theorem lw_p7 : lw_okq (⟨"ColumnForms$Bytes", "addToLast", "(II)V"⟩, 2) := ⟨⟨by decide +kernel, by decide +kernel⟩, List.mem_of_getElem? (i := 78) (by decide +kernel), List.mem_of_getElem? (i := 402) (by decide +kernel), List.mem_of_getElem? (i := 403) (by decide +kernel)⟩
theorem lw_p8 : lw_okq (⟨"ColumnForms", "refuseNoColumn", "()V"⟩, 5) := ⟨⟨by decide +kernel, by decide +kernel⟩, List.mem_of_getElem? (i := 23) (by decide +kernel), List.mem_of_getElem? (i := 509) (by decide +kernel), List.mem_of_getElem? (i := 510) (by decide +kernel)⟩
theorem lw_p9 : lw_okq (⟨"ColumnForms$Listed", "countPlaces", "(LColumnForms$Bytes;II)V"⟩, 1) := ⟨⟨by decide +kernel, by decide +kernel⟩, List.mem_of_getElem? (i := 111) (by decide +kernel), List.mem_of_getElem? (i := 545) (by decide +kernel), List.mem_of_getElem? (i := 546) (by decide +kernel)⟩
theorem lw_p10 : lw_okq (⟨"ColumnForms$Question", "fits", "(J)Z"⟩, 5) := ⟨⟨by decide +kernel, by decide +kernel⟩, List.mem_of_getElem? (i := 514) (by decide +kernel), List.mem_of_getElem? (i := 556) (by decide +kernel), List.mem_of_getElem? (i := 557) (by decide +kernel)⟩
theorem lw_p11 : lw_okq (⟨"ColumnFormsModel", "weigh", "(I)I"⟩, 11) := ⟨⟨by decide +kernel, by decide +kernel⟩, List.mem_of_getElem? (i := 584) (by decide +kernel), List.mem_of_getElem? (i := 644) (by decide +kernel), List.mem_of_getElem? (i := 645) (by decide +kernel)⟩
theorem lw_p12 : lw_okq (⟨"ColumnFormsModel", "greatest", "()J"⟩, 11) := ⟨⟨by decide +kernel, by decide +kernel⟩, List.mem_of_getElem? (i := 584) (by decide +kernel), List.mem_of_getElem? (i := 648) (by decide +kernel), List.mem_of_getElem? (i := 649) (by decide +kernel)⟩
theorem lw_p13 : lw_okq (⟨"ColumnFormsModel", "least", "()J"⟩, 11) := ⟨⟨by decide +kernel, by decide +kernel⟩, List.mem_of_getElem? (i := 584) (by decide +kernel), List.mem_of_getElem? (i := 652) (by decide +kernel), List.mem_of_getElem? (i := 653) (by decide +kernel)⟩
theorem lw_p14 : lw_okq (⟨"ColumnFormsModel", "listAll", "()V"⟩, 11) := ⟨⟨by decide +kernel, by decide +kernel⟩, List.mem_of_getElem? (i := 584) (by decide +kernel), List.mem_of_getElem? (i := 662) (by decide +kernel), List.mem_of_getElem? (i := 663) (by decide +kernel)⟩
theorem lw_p15 : lw_okq (⟨"ColumnFormsModel", "placeOf", "(J)I"⟩, 11) := ⟨⟨by decide +kernel, by decide +kernel⟩, List.mem_of_getElem? (i := 584) (by decide +kernel), List.mem_of_getElem? (i := 666) (by decide +kernel), List.mem_of_getElem? (i := 667) (by decide +kernel)⟩
def lw_privs_1 : List (MethodName × Nat) := [(⟨"java/lang/Throwable", "fillInStackTrace", "(I)Ljava/lang/Throwable;"⟩, 6), (⟨"ColumnForms$Row", "noteFirst", "(J)V"⟩, 9), (⟨"ColumnForms$Row", "noteNext", "(JJ)V"⟩, 9), (⟨"ColumnForms$Row", "noteDifferent", "(JI)V"⟩, 9), (⟨"ColumnForms", "refuseEmptyRow", "()V"⟩, 5), (⟨"ColumnForms", "lightestForm", "()I"⟩, 5), (⟨"ColumnForms", "writeRow", "(I)I"⟩, 5), (⟨"ColumnForms$Bytes", "addToLast", "(II)V"⟩, 2), (⟨"ColumnForms", "refuseNoColumn", "()V"⟩, 5), (⟨"ColumnForms$Listed", "countPlaces", "(LColumnForms$Bytes;II)V"⟩, 1), (⟨"ColumnForms$Question", "fits", "(J)Z"⟩, 5), (⟨"ColumnFormsModel", "weigh", "(I)I"⟩, 11), (⟨"ColumnFormsModel", "greatest", "()J"⟩, 11), (⟨"ColumnFormsModel", "least", "()J"⟩, 11), (⟨"ColumnFormsModel", "listAll", "()V"⟩, 11), (⟨"ColumnFormsModel", "placeOf", "(J)I"⟩, 11)]
theorem lw_r1 : ∀ q ∈ lw_privs_1, lw_okq q := List.forall_mem_cons.mpr ⟨lw_p0, List.forall_mem_cons.mpr ⟨lw_p1, List.forall_mem_cons.mpr ⟨lw_p2, List.forall_mem_cons.mpr ⟨lw_p3, List.forall_mem_cons.mpr ⟨lw_p4, List.forall_mem_cons.mpr ⟨lw_p5, List.forall_mem_cons.mpr ⟨lw_p6, List.forall_mem_cons.mpr ⟨lw_p7, List.forall_mem_cons.mpr ⟨lw_p8, List.forall_mem_cons.mpr ⟨lw_p9, List.forall_mem_cons.mpr ⟨lw_p10, List.forall_mem_cons.mpr ⟨lw_p11, List.forall_mem_cons.mpr ⟨lw_p12, List.forall_mem_cons.mpr ⟨lw_p13, List.forall_mem_cons.mpr ⟨lw_p14, List.forall_mem_cons.mpr ⟨lw_p15, fun _ h => absurd h List.not_mem_nil⟩⟩⟩⟩⟩⟩⟩⟩⟩⟩⟩⟩⟩⟩⟩⟩
theorem lw_p16 : lw_okq (⟨"ColumnFormsModel", "runs", "()I"⟩, 11) := ⟨⟨by decide +kernel, by decide +kernel⟩, List.mem_of_getElem? (i := 584) (by decide +kernel), List.mem_of_getElem? (i := 670) (by decide +kernel), List.mem_of_getElem? (i := 671) (by decide +kernel)⟩
theorem lw_p17 : lw_okq (⟨"ColumnFormsModel", "greatestStep", "()J"⟩, 11) := ⟨⟨by decide +kernel, by decide +kernel⟩, List.mem_of_getElem? (i := 584) (by decide +kernel), List.mem_of_getElem? (i := 674) (by decide +kernel), List.mem_of_getElem? (i := 675) (by decide +kernel)⟩
theorem lw_p18 : lw_okq (⟨"ColumnFormsModel", "step", "(I)J"⟩, 11) := ⟨⟨by decide +kernel, by decide +kernel⟩, List.mem_of_getElem? (i := 584) (by decide +kernel), List.mem_of_getElem? (i := 678) (by decide +kernel), List.mem_of_getElem? (i := 679) (by decide +kernel)⟩
theorem lw_p19 : lw_okq (⟨"ColumnFormsModel", "leastStep", "()J"⟩, 11) := ⟨⟨by decide +kernel, by decide +kernel⟩, List.mem_of_getElem? (i := 584) (by decide +kernel), List.mem_of_getElem? (i := 682) (by decide +kernel), List.mem_of_getElem? (i := 683) (by decide +kernel)⟩
theorem lw_p20 : lw_okq (⟨"ColumnFormsModel", "writeIn", "(I)I"⟩, 11) := ⟨⟨by decide +kernel, by decide +kernel⟩, List.mem_of_getElem? (i := 584) (by decide +kernel), List.mem_of_getElem? (i := 690) (by decide +kernel), List.mem_of_getElem? (i := 691) (by decide +kernel)⟩
theorem lw_p21 : lw_okq (⟨"ColumnFormsModel", "number", "(JI)V"⟩, 11) := ⟨⟨by decide +kernel, by decide +kernel⟩, List.mem_of_getElem? (i := 584) (by decide +kernel), List.mem_of_getElem? (i := 694) (by decide +kernel), List.mem_of_getElem? (i := 695) (by decide +kernel)⟩
theorem lw_p22 : lw_okq (⟨"ColumnFormsModel", "bit", "(I)V"⟩, 11) := ⟨⟨by decide +kernel, by decide +kernel⟩, List.mem_of_getElem? (i := 584) (by decide +kernel), List.mem_of_getElem? (i := 698) (by decide +kernel), List.mem_of_getElem? (i := 699) (by decide +kernel)⟩
theorem lw_p23 : lw_okq (⟨"ColumnFormsModel", "writeList", "()V"⟩, 11) := ⟨⟨by decide +kernel, by decide +kernel⟩, List.mem_of_getElem? (i := 584) (by decide +kernel), List.mem_of_getElem? (i := 702) (by decide +kernel), List.mem_of_getElem? (i := 703) (by decide +kernel)⟩
theorem lw_p24 : lw_okq (⟨"ColumnFormsModel", "writeRuns", "()V"⟩, 11) := ⟨⟨by decide +kernel, by decide +kernel⟩, List.mem_of_getElem? (i := 584) (by decide +kernel), List.mem_of_getElem? (i := 706) (by decide +kernel), List.mem_of_getElem? (i := 707) (by decide +kernel)⟩
theorem lw_p25 : lw_okq (⟨"ColumnFormsModel", "writeSteps", "()V"⟩, 11) := ⟨⟨by decide +kernel, by decide +kernel⟩, List.mem_of_getElem? (i := 584) (by decide +kernel), List.mem_of_getElem? (i := 710) (by decide +kernel), List.mem_of_getElem? (i := 711) (by decide +kernel)⟩
def lw_privs_2 : List (MethodName × Nat) := [(⟨"ColumnFormsModel", "runs", "()I"⟩, 11), (⟨"ColumnFormsModel", "greatestStep", "()J"⟩, 11), (⟨"ColumnFormsModel", "step", "(I)J"⟩, 11), (⟨"ColumnFormsModel", "leastStep", "()J"⟩, 11), (⟨"ColumnFormsModel", "writeIn", "(I)I"⟩, 11), (⟨"ColumnFormsModel", "number", "(JI)V"⟩, 11), (⟨"ColumnFormsModel", "bit", "(I)V"⟩, 11), (⟨"ColumnFormsModel", "writeList", "()V"⟩, 11), (⟨"ColumnFormsModel", "writeRuns", "()V"⟩, 11), (⟨"ColumnFormsModel", "writeSteps", "()V"⟩, 11)]
theorem lw_r2 : ∀ q ∈ lw_privs_2, lw_okq q := List.forall_mem_cons.mpr ⟨lw_p16, List.forall_mem_cons.mpr ⟨lw_p17, List.forall_mem_cons.mpr ⟨lw_p18, List.forall_mem_cons.mpr ⟨lw_p19, List.forall_mem_cons.mpr ⟨lw_p20, List.forall_mem_cons.mpr ⟨lw_p21, List.forall_mem_cons.mpr ⟨lw_p22, List.forall_mem_cons.mpr ⟨lw_p23, List.forall_mem_cons.mpr ⟨lw_p24, List.forall_mem_cons.mpr ⟨lw_p25, fun _ h => absurd h List.not_mem_nil⟩⟩⟩⟩⟩⟩⟩⟩⟩⟩
def lw_privs : List (MethodName × Nat) := lw_privs_1 ++ (lw_privs_2)
def lw_tbl : List Cond := k2_sels lw_privs ++ tables_1
theorem lw_privs_ok : ∀ q ∈ lw_privs, lw_okq q := by
  show ∀ q ∈ lw_privs_1 ++ (lw_privs_2), lw_okq q
  exact List.forall_mem_append.mpr ⟨lw_r1, lw_r2⟩
def wsG : List Cond := lw_tbl.filter goodWord
theorem wsG_t {w : Cond} (i : Nat) (h : tables_1[i]? = some w) (g : goodWord w = true) : w ∈ wsG := List.mem_filter.mpr ⟨List.mem_append_right _ (List.mem_of_getElem? h), g⟩
theorem wsG_s {w : Cond} (i : Nat) (h : (k2_sels lw_privs)[i]? = some w) (g : goodWord w = true) : w ∈ wsG := List.mem_filter.mpr ⟨List.mem_append_left _ (List.mem_of_getElem? h), g⟩
theorem wsG_in : ∀ w ∈ wsG, w ∈ lw_tbl := fun w h => (List.mem_filter.mp h).1
theorem wsG_c {w : Cond} (h : w ∈ wsG) : GoodIn wsG (w :: wsG) := fun x hx => (List.mem_cons.mp hx).elim (fun e => by rw [e]; exact ⟨h, good_of_word (List.mem_filter.mp h).2⟩) (fun q => ⟨q, good_of_word (List.mem_filter.mp q).2⟩)
theorem wsG_n : GoodIn wsG [] := fun x hx => nomatch hx
theorem wsG_k {w : Cond} {ws : List Cond} (h : w ∈ wsG) (g : GoodIn wsG ws) : GoodIn wsG (w :: ws) := fun x hx => (List.mem_cons.mp hx).elim (fun e => by rw [e]; exact ⟨h, good_of_word (List.mem_filter.mp h).2⟩) (fun q => g x q)
end
section
def TBy : u_T := fun k => match k with
  | 0 => ("ColumnForms$Bytes", "octets", "[B", false)
  | _ => ("ColumnForms$Bytes", "bitCount", "I", false)
def tyBy : Nat → FieldType := fun k => match k with
  | 0 => .array .byte
  | _ => .int
theorem nmBy : ∀ a, a < 2 → ∀ b, b < 2 → a ≠ b → (TBy a).2.1 ≠ (TBy b).2.1 := by decide +kernel
theorem tyBy_ok : ∀ k, k < 2 → parseFieldDescriptor (TBy k).2.2.1 = some (tyBy k) := by decide +kernel
def TLi : u_T := fun k => match k with
  | _ => ("ColumnForms$Listed", "often", "[I", true)
def tyLi : Nat → FieldType := fun k => match k with
  | _ => .array .int
theorem nmLi : ∀ a, a < 1 → ∀ b, b < 1 → a ≠ b → (TLi a).2.1 ≠ (TLi b).2.1 := by decide +kernel
theorem tyLi_ok : ∀ k, k < 1 → parseFieldDescriptor (TLi k).2.2.1 = some (tyLi k) := by decide +kernel
def TPa : u_T := fun k => match k with
  | _ => ("", "", "", false)
def tyPa : Nat → FieldType := fun k => match k with
  | _ => .int
theorem nmPa : ∀ a, a < 0 → ∀ b, b < 0 → a ≠ b → (TPa a).2.1 ≠ (TPa b).2.1 := by decide +kernel
theorem tyPa_ok : ∀ k, k < 0 → parseFieldDescriptor (TPa k).2.2.1 = some (tyPa k) := by decide +kernel
def TPl : u_T := fun k => match k with
  | _ => ("", "", "", false)
def tyPl : Nat → FieldType := fun k => match k with
  | _ => .int
theorem nmPl : ∀ a, a < 0 → ∀ b, b < 0 → a ≠ b → (TPl a).2.1 ≠ (TPl b).2.1 := by decide +kernel
theorem tyPl_ok : ∀ k, k < 0 → parseFieldDescriptor (TPl k).2.2.1 = some (tyPl k) := by decide +kernel
def TQu : u_T := fun k => match k with
  | 0 => ("ColumnForms$Question", "hits", "I", false)
  | 1 => ("ColumnForms$Question", "total", "J", false)
  | 2 => ("ColumnForms$Question", "kind", "I", true)
  | 3 => ("ColumnForms$Question", "low", "J", true)
  | _ => ("ColumnForms$Question", "high", "J", true)
def tyQu : Nat → FieldType := fun k => match k with
  | 0 => .int
  | 1 => .long
  | 2 => .int
  | 3 => .long
  | _ => .long
theorem nmQu : ∀ a, a < 5 → ∀ b, b < 5 → a ≠ b → (TQu a).2.1 ≠ (TQu b).2.1 := by decide +kernel
theorem tyQu_ok : ∀ k, k < 5 → parseFieldDescriptor (TQu k).2.2.1 = some (tyQu k) := by decide +kernel
def TRo : u_T := fun k => match k with
  | 0 => ("ColumnForms$Row", "length", "I", false)
  | 1 => ("ColumnForms$Row", "different", "I", false)
  | 2 => ("ColumnForms$Row", "runs", "I", false)
  | 3 => ("ColumnForms$Row", "least", "J", false)
  | 4 => ("ColumnForms$Row", "greatest", "J", false)
  | 5 => ("ColumnForms$Row", "leastStep", "J", false)
  | 6 => ("ColumnForms$Row", "greatestStep", "J", false)
  | 7 => ("ColumnForms$Row", "cells", "[J", true)
  | _ => ("ColumnForms$Row", "rising", "[J", true)
def tyRo : Nat → FieldType := fun k => match k with
  | 0 => .int
  | 1 => .int
  | 2 => .int
  | 3 => .long
  | 4 => .long
  | 5 => .long
  | 6 => .long
  | 7 => .array .long
  | _ => .array .long
theorem nmRo : ∀ a, a < 9 → ∀ b, b < 9 → a ≠ b → (TRo a).2.1 ≠ (TRo b).2.1 := by decide +kernel
theorem tyRo_ok : ∀ k, k < 9 → parseFieldDescriptor (TRo k).2.2.1 = some (tyRo k) := by decide +kernel
def TRu : u_T := fun k => match k with
  | _ => ("", "", "", false)
def tyRu : Nat → FieldType := fun k => match k with
  | _ => .int
theorem nmRu : ∀ a, a < 0 → ∀ b, b < 0 → a ≠ b → (TRu a).2.1 ≠ (TRu b).2.1 := by decide +kernel
theorem tyRu_ok : ∀ k, k < 0 → parseFieldDescriptor (TRu k).2.2.1 = some (tyRu k) := by decide +kernel
def TSs : u_T := fun k => match k with
  | _ => ("", "", "", false)
def tySs : Nat → FieldType := fun k => match k with
  | _ => .int
theorem nmSs : ∀ a, a < 0 → ∀ b, b < 0 → a ≠ b → (TSs a).2.1 ≠ (TSs b).2.1 := by decide +kernel
theorem tySs_ok : ∀ k, k < 0 → parseFieldDescriptor (TSs k).2.2.1 = some (tySs k) := by decide +kernel
def TCf : u_T := fun k => match k with
  | 0 => ("ColumnForms", "row", "LColumnForms$Row;", true)
  | 1 => ("ColumnForms", "column", "LColumnForms$Bytes;", true)
  | 2 => ("ColumnForms", "forms", "[LColumnForms$Form;", true)
  | 3 => ("ColumnForms", "columnForm", "I", false)
  | _ => ("ColumnForms", "columnCells", "I", false)
def tyCf : Nat → FieldType := fun k => match k with
  | 0 => .object "ColumnForms$Row"
  | 1 => .object "ColumnForms$Bytes"
  | 2 => .array (.object "ColumnForms$Form")
  | 3 => .int
  | _ => .int
theorem nmCf : ∀ a, a < 5 → ∀ b, b < 5 → a ≠ b → (TCf a).2.1 ≠ (TCf b).2.1 := by decide +kernel
theorem tyCf_ok : ∀ k, k < 5 → parseFieldDescriptor (TCf k).2.2.1 = some (tyCf k) := by decide +kernel
def TMo : u_T := fun k => match k with
  | 0 => ("ColumnFormsModel", "code", "I", false)
  | 1 => ("ColumnFormsModel", "count", "I", false)
  | 2 => ("ColumnFormsModel", "row", "[J", true)
  | 3 => ("ColumnFormsModel", "form", "I", false)
  | 4 => ("ColumnFormsModel", "cells", "I", false)
  | 5 => ("ColumnFormsModel", "cell", "[J", true)
  | 6 => ("ColumnFormsModel", "size", "I", false)
  | 7 => ("ColumnFormsModel", "bytes", "[I", true)
  | 8 => ("ColumnFormsModel", "bits", "I", false)
  | 9 => ("ColumnFormsModel", "different", "I", false)
  | _ => ("ColumnFormsModel", "list", "[J", true)
def tyMo : Nat → FieldType := fun k => match k with
  | 0 => .int
  | 1 => .int
  | 2 => .array .long
  | 3 => .int
  | 4 => .int
  | 5 => .array .long
  | 6 => .int
  | 7 => .array .int
  | 8 => .int
  | 9 => .int
  | _ => .array .long
theorem nmMo : ∀ a, a < 11 → ∀ b, b < 11 → a ≠ b → (TMo a).2.1 ≠ (TMo b).2.1 := by decide +kernel
theorem tyMo_ok : ∀ k, k < 11 → parseFieldDescriptor (TMo k).2.2.1 = some (tyMo k) := by decide +kernel
abbrev cCf_init : ByteArray := prog_1_method_1_code
abbrev yCf_init : MethodName := ⟨"ColumnForms", "<init>", "()V"⟩
abbrev cRo_init : ByteArray := prog_8_method_1_code
abbrev yRo_init : MethodName := ⟨"ColumnForms$Row", "<init>", "()V"⟩
abbrev cBy_init : ByteArray := prog_2_method_1_code
abbrev yBy_init : MethodName := ⟨"ColumnForms$Bytes", "<init>", "()V"⟩
abbrev cPl_init : ByteArray := prog_6_method_1_code
abbrev yPl_init : MethodName := ⟨"ColumnForms$Plain", "<init>", "()V"⟩
abbrev cFo_init : ByteArray := prog_3_method_1_code
abbrev yFo_init : MethodName := ⟨"ColumnForms$Form", "<init>", "()V"⟩
abbrev cPa_init : ByteArray := prog_5_method_1_code
abbrev yPa_init : MethodName := ⟨"ColumnForms$Packed", "<init>", "()V"⟩
abbrev cLi_init : ByteArray := prog_4_method_1_code
abbrev yLi_init : MethodName := ⟨"ColumnForms$Listed", "<init>", "()V"⟩
abbrev cRu_init : ByteArray := prog_9_method_1_code
abbrev yRu_init : MethodName := ⟨"ColumnForms$Runs", "<init>", "()V"⟩
abbrev cSs_init : ByteArray := prog_10_method_1_code
abbrev ySs_init : MethodName := ⟨"ColumnForms$Steps", "<init>", "()V"⟩
abbrev cCf_clear : ByteArray := prog_1_method_4_code
abbrev yCf_clear : MethodName := ⟨"ColumnForms", "clear", "()I"⟩
abbrev cRo_empty : ByteArray := prog_8_method_5_code
abbrev yRo_empty : MethodName := ⟨"ColumnForms$Row", "empty", "()V"⟩
abbrev cCf_form : ByteArray := prog_1_method_8_code
abbrev yCf_form : MethodName := ⟨"ColumnForms", "form", "()I"⟩
abbrev cCf_size : ByteArray := prog_1_method_9_code
abbrev yCf_size : MethodName := ⟨"ColumnForms", "size", "()I"⟩
abbrev cBy_length : ByteArray := prog_2_method_2_code
abbrev yBy_length : MethodName := ⟨"ColumnForms$Bytes", "length", "()I"⟩
abbrev cCf_wholeBytes : ByteArray := prog_1_method_20_code
abbrev yCf_wholeBytes : MethodName := ⟨"ColumnForms", "wholeBytes", "(I)I"⟩
abbrev cLa_put : ByteArray := method_3_code
abbrev yLa_put : MethodName := ⟨"ColumnFormsLaw", "put", "(LColumnForms;J[J)I"⟩
abbrev cCf_put : ByteArray := prog_1_method_2_code
abbrev yCf_put : MethodName := ⟨"ColumnForms", "put", "(J)I"⟩
abbrev cRo_add : ByteArray := prog_8_method_6_code
abbrev yRo_add : MethodName := ⟨"ColumnForms$Row", "add", "(J)V"⟩
abbrev cRo_noteFirst : ByteArray := prog_8_method_7_code
abbrev yRo_noteFirst : MethodName := ⟨"ColumnForms$Row", "noteFirst", "(J)V"⟩
abbrev cRo_at : ByteArray := prog_8_method_2_code
abbrev yRo_at : MethodName := ⟨"ColumnForms$Row", "at", "(I)J"⟩
abbrev cRo_noteNext : ByteArray := prog_8_method_8_code
abbrev yRo_noteNext : MethodName := ⟨"ColumnForms$Row", "noteNext", "(JJ)V"⟩
abbrev cRo_placeOf : ByteArray := prog_8_method_4_code
abbrev yRo_placeOf : MethodName := ⟨"ColumnForms$Row", "placeOf", "(J)I"⟩
abbrev cRo_differentAt : ByteArray := prog_8_method_3_code
abbrev yRo_differentAt : MethodName := ⟨"ColumnForms$Row", "differentAt", "(I)J"⟩
abbrev cRo_noteDifferent : ByteArray := prog_8_method_9_code
abbrev yRo_noteDifferent : MethodName := ⟨"ColumnForms$Row", "noteDifferent", "(JI)V"⟩
abbrev cLa_fill : ByteArray := method_4_code
abbrev yLa_fill : MethodName := ⟨"ColumnFormsLaw", "fill", "(LColumnForms;JJI[J)I"⟩
abbrev cCf_fill : ByteArray := prog_1_method_3_code
abbrev yCf_fill : MethodName := ⟨"ColumnForms", "fill", "(JJI)I"⟩
abbrev cLa_weight : ByteArray := method_5_code
abbrev yLa_weight : MethodName := ⟨"ColumnFormsLaw", "weight", "(LColumnForms;I[J)I"⟩
abbrev cCf_weight : ByteArray := prog_1_method_5_code
abbrev yCf_weight : MethodName := ⟨"ColumnForms", "weight", "(I)I"⟩
abbrev cCf_refuseUnknownForm : ByteArray := prog_1_method_14_code
abbrev yCf_refuseUnknownForm : MethodName := ⟨"ColumnForms", "refuseUnknownForm", "(I)V"⟩
abbrev cCf_refuseEmptyRow : ByteArray := prog_1_method_15_code
abbrev yCf_refuseEmptyRow : MethodName := ⟨"ColumnForms", "refuseEmptyRow", "()V"⟩
abbrev cLi_weigh : ByteArray := prog_4_method_2_code
abbrev yLi_weigh : MethodName := ⟨"ColumnForms$Listed", "weigh", "(LColumnForms$Row;)I"⟩
abbrev cLi_placesFrom : ByteArray := prog_4_method_9_code
abbrev yLi_placesFrom : MethodName := ⟨"ColumnForms$Listed", "placesFrom", "(I)I"⟩
abbrev cCf_bits : ByteArray := prog_1_method_19_code
abbrev yCf_bits : MethodName := ⟨"ColumnForms", "bits", "(J)I"⟩
abbrev cJL_numberOfLeadingZeros : ByteArray := prog_17_method_48_code
abbrev yJL_numberOfLeadingZeros : MethodName := ⟨"java/lang/Long", "numberOfLeadingZeros", "(J)I"⟩
abbrev cJI_numberOfLeadingZeros : ByteArray := prog_16_method_47_code
abbrev yJI_numberOfLeadingZeros : MethodName := ⟨"java/lang/Integer", "numberOfLeadingZeros", "(I)I"⟩
abbrev cPa_weigh : ByteArray := prog_5_method_2_code
abbrev yPa_weigh : MethodName := ⟨"ColumnForms$Packed", "weigh", "(LColumnForms$Row;)I"⟩
abbrev cPa_widthOf : ByteArray := prog_5_method_6_code
abbrev yPa_widthOf : MethodName := ⟨"ColumnForms$Packed", "widthOf", "(LColumnForms$Row;)I"⟩
abbrev cPl_weigh : ByteArray := prog_6_method_2_code
abbrev yPl_weigh : MethodName := ⟨"ColumnForms$Plain", "weigh", "(LColumnForms$Row;)I"⟩
abbrev cRu_weigh : ByteArray := prog_9_method_2_code
abbrev yRu_weigh : MethodName := ⟨"ColumnForms$Runs", "weigh", "(LColumnForms$Row;)I"⟩
abbrev cSs_weigh : ByteArray := prog_10_method_2_code
abbrev ySs_weigh : MethodName := ⟨"ColumnForms$Steps", "weigh", "(LColumnForms$Row;)I"⟩
abbrev cSs_widthOf : ByteArray := prog_10_method_7_code
abbrev ySs_widthOf : MethodName := ⟨"ColumnForms$Steps", "widthOf", "(LColumnForms$Row;)I"⟩
abbrev cLa_write : ByteArray := method_6_code
abbrev yLa_write : MethodName := ⟨"ColumnFormsLaw", "write", "(LColumnForms;[J)I"⟩
abbrev cCf_write : ByteArray := prog_1_method_6_code
abbrev yCf_write : MethodName := ⟨"ColumnForms", "write", "()I"⟩
abbrev cCf_lightestForm : ByteArray := prog_1_method_17_code
abbrev yCf_lightestForm : MethodName := ⟨"ColumnForms", "lightestForm", "()I"⟩
abbrev cCf_writeRow : ByteArray := prog_1_method_18_code
abbrev yCf_writeRow : MethodName := ⟨"ColumnForms", "writeRow", "(I)I"⟩
abbrev cBy_restart : ByteArray := prog_2_method_4_code
abbrev yBy_restart : MethodName := ⟨"ColumnForms$Bytes", "restart", "()V"⟩
abbrev cLi_lay : ByteArray := prog_4_method_3_code
abbrev yLi_lay : MethodName := ⟨"ColumnForms$Listed", "lay", "(LColumnForms$Row;LColumnForms$Bytes;)V"⟩
abbrev cBy_append : ByteArray := prog_2_method_5_code
abbrev yBy_append : MethodName := ⟨"ColumnForms$Bytes", "append", "(JI)V"⟩
abbrev cBy_addToLast : ByteArray := prog_2_method_6_code
abbrev yBy_addToLast : MethodName := ⟨"ColumnForms$Bytes", "addToLast", "(II)V"⟩
abbrev cPa_lay : ByteArray := prog_5_method_3_code
abbrev yPa_lay : MethodName := ⟨"ColumnForms$Packed", "lay", "(LColumnForms$Row;LColumnForms$Bytes;)V"⟩
abbrev cPl_lay : ByteArray := prog_6_method_3_code
abbrev yPl_lay : MethodName := ⟨"ColumnForms$Plain", "lay", "(LColumnForms$Row;LColumnForms$Bytes;)V"⟩
abbrev cRu_lay : ByteArray := prog_9_method_3_code
abbrev yRu_lay : MethodName := ⟨"ColumnForms$Runs", "lay", "(LColumnForms$Row;LColumnForms$Bytes;)V"⟩
abbrev cSs_lay : ByteArray := prog_10_method_3_code
abbrev ySs_lay : MethodName := ⟨"ColumnForms$Steps", "lay", "(LColumnForms$Row;LColumnForms$Bytes;)V"⟩
abbrev cLa_writeAs : ByteArray := method_7_code
abbrev yLa_writeAs : MethodName := ⟨"ColumnFormsLaw", "writeAs", "(LColumnForms;I[J)I"⟩
abbrev cCf_writeAs : ByteArray := prog_1_method_7_code
abbrev yCf_writeAs : MethodName := ⟨"ColumnForms", "writeAs", "(I)I"⟩
abbrev cLa_byteAt : ByteArray := method_8_code
abbrev yLa_byteAt : MethodName := ⟨"ColumnFormsLaw", "byteAt", "(LColumnForms;I[J)I"⟩
abbrev cCf_byteAt : ByteArray := prog_1_method_10_code
abbrev yCf_byteAt : MethodName := ⟨"ColumnForms", "byteAt", "(I)I"⟩
abbrev cBy_octet : ByteArray := prog_2_method_3_code
abbrev yBy_octet : MethodName := ⟨"ColumnForms$Bytes", "octet", "(I)I"⟩
abbrev cLa_cell : ByteArray := method_9_code
abbrev yLa_cell : MethodName := ⟨"ColumnFormsLaw", "cell", "(LColumnForms;I[J)I"⟩
abbrev cCf_cell : ByteArray := prog_1_method_11_code
abbrev yCf_cell : MethodName := ⟨"ColumnForms", "cell", "(I)J"⟩
abbrev cLi_read : ByteArray := prog_4_method_4_code
abbrev yLi_read : MethodName := ⟨"ColumnForms$Listed", "read", "(LColumnForms$Bytes;I)J"⟩
abbrev cLi_differentIn : ByteArray := prog_4_method_7_code
abbrev yLi_differentIn : MethodName := ⟨"ColumnForms$Listed", "differentIn", "(LColumnForms$Bytes;)I"⟩
abbrev cBy_bitsAt : ByteArray := prog_2_method_7_code
abbrev yBy_bitsAt : MethodName := ⟨"ColumnForms$Bytes", "bitsAt", "(II)J"⟩
abbrev cLi_listedAt : ByteArray := prog_4_method_8_code
abbrev yLi_listedAt : MethodName := ⟨"ColumnForms$Listed", "listedAt", "(LColumnForms$Bytes;I)J"⟩
abbrev cPa_read : ByteArray := prog_5_method_4_code
abbrev yPa_read : MethodName := ⟨"ColumnForms$Packed", "read", "(LColumnForms$Bytes;I)J"⟩
abbrev cPl_read : ByteArray := prog_6_method_4_code
abbrev yPl_read : MethodName := ⟨"ColumnForms$Plain", "read", "(LColumnForms$Bytes;I)J"⟩
abbrev cRu_read : ByteArray := prog_9_method_4_code
abbrev yRu_read : MethodName := ⟨"ColumnForms$Runs", "read", "(LColumnForms$Bytes;I)J"⟩
abbrev cRu_runsIn : ByteArray := prog_9_method_6_code
abbrev yRu_runsIn : MethodName := ⟨"ColumnForms$Runs", "runsIn", "(LColumnForms$Bytes;)I"⟩
abbrev cRu_lengthOf : ByteArray := prog_9_method_8_code
abbrev yRu_lengthOf : MethodName := ⟨"ColumnForms$Runs", "lengthOf", "(LColumnForms$Bytes;I)I"⟩
abbrev cRu_cellOf : ByteArray := prog_9_method_7_code
abbrev yRu_cellOf : MethodName := ⟨"ColumnForms$Runs", "cellOf", "(LColumnForms$Bytes;I)J"⟩
abbrev cSs_read : ByteArray := prog_10_method_4_code
abbrev ySs_read : MethodName := ⟨"ColumnForms$Steps", "read", "(LColumnForms$Bytes;I)J"⟩
abbrev cSs_widthIn : ByteArray := prog_10_method_6_code
abbrev ySs_widthIn : MethodName := ⟨"ColumnForms$Steps", "widthIn", "(LColumnForms$Bytes;)I"⟩
abbrev cLa_count : ByteArray := method_10_code
abbrev yLa_count : MethodName := ⟨"ColumnFormsLaw", "count", "(LColumnForms;IJ[J)I"⟩
abbrev cCf_count : ByteArray := prog_1_method_12_code
abbrev yCf_count : MethodName := ⟨"ColumnForms", "count", "(IJ)I"⟩
abbrev cCf_refuseNoColumn : ByteArray := prog_1_method_16_code
abbrev yCf_refuseNoColumn : MethodName := ⟨"ColumnForms", "refuseNoColumn", "()V"⟩
abbrev cQu_init : ByteArray := prog_7_method_1_code
abbrev yQu_init : MethodName := ⟨"ColumnForms$Question", "<init>", "(IJJ)V"⟩
abbrev cLi_askAll : ByteArray := prog_4_method_5_code
abbrev yLi_askAll : MethodName := ⟨"ColumnForms$Listed", "askAll", "(LColumnForms$Bytes;ILColumnForms$Question;)V"⟩
abbrev cLi_countPlaces : ByteArray := prog_4_method_6_code
abbrev yLi_countPlaces : MethodName := ⟨"ColumnForms$Listed", "countPlaces", "(LColumnForms$Bytes;II)V"⟩
abbrev cJA_fill : ByteArray := prog_23_method_103_code
abbrev yJA_fill : MethodName := ⟨"java/util/Arrays", "fill", "([II)V"⟩
abbrev cQu_ask : ByteArray := prog_7_method_2_code
abbrev yQu_ask : MethodName := ⟨"ColumnForms$Question", "ask", "(JI)V"⟩
abbrev cQu_fits : ByteArray := prog_7_method_3_code
abbrev yQu_fits : MethodName := ⟨"ColumnForms$Question", "fits", "(J)Z"⟩
abbrev cPa_askAll : ByteArray := prog_5_method_5_code
abbrev yPa_askAll : MethodName := ⟨"ColumnForms$Packed", "askAll", "(LColumnForms$Bytes;ILColumnForms$Question;)V"⟩
abbrev cPl_askAll : ByteArray := prog_6_method_5_code
abbrev yPl_askAll : MethodName := ⟨"ColumnForms$Plain", "askAll", "(LColumnForms$Bytes;ILColumnForms$Question;)V"⟩
abbrev cRu_askAll : ByteArray := prog_9_method_5_code
abbrev yRu_askAll : MethodName := ⟨"ColumnForms$Runs", "askAll", "(LColumnForms$Bytes;ILColumnForms$Question;)V"⟩
abbrev cSs_askAll : ByteArray := prog_10_method_5_code
abbrev ySs_askAll : MethodName := ⟨"ColumnForms$Steps", "askAll", "(LColumnForms$Bytes;ILColumnForms$Question;)V"⟩
abbrev cLa_sum : ByteArray := method_11_code
abbrev yLa_sum : MethodName := ⟨"ColumnFormsLaw", "sum", "(LColumnForms;JJ[J)I"⟩
abbrev cCf_sum : ByteArray := prog_1_method_13_code
abbrev yCf_sum : MethodName := ⟨"ColumnForms", "sum", "(JJ)J"⟩
abbrev cMo_init : ByteArray := prog_12_method_1_code
abbrev yMo_init : MethodName := ⟨"ColumnFormsModel", "<init>", "()V"⟩
abbrev cMo_thrown : ByteArray := prog_12_method_2_code
abbrev yMo_thrown : MethodName := ⟨"ColumnFormsModel", "thrown", "()I"⟩
abbrev cMo_put : ByteArray := prog_12_method_3_code
abbrev yMo_put : MethodName := ⟨"ColumnFormsModel", "put", "(J)I"⟩
abbrev cMo_fill : ByteArray := prog_12_method_4_code
abbrev yMo_fill : MethodName := ⟨"ColumnFormsModel", "fill", "(JJI)I"⟩
abbrev cMo_clear : ByteArray := prog_12_method_5_code
abbrev yMo_clear : MethodName := ⟨"ColumnFormsModel", "clear", "()I"⟩
abbrev cMo_weight : ByteArray := prog_12_method_17_code
abbrev yMo_weight : MethodName := ⟨"ColumnFormsModel", "weight", "(I)I"⟩
abbrev cMo_weigh : ByteArray := prog_12_method_16_code
abbrev yMo_weigh : MethodName := ⟨"ColumnFormsModel", "weigh", "(I)I"⟩
abbrev cMo_greatest : ByteArray := prog_12_method_8_code
abbrev yMo_greatest : MethodName := ⟨"ColumnFormsModel", "greatest", "()J"⟩
abbrev cMo_least : ByteArray := prog_12_method_7_code
abbrev yMo_least : MethodName := ⟨"ColumnFormsModel", "least", "()J"⟩
abbrev cMo_digits : ByteArray := prog_12_method_6_code
abbrev yMo_digits : MethodName := ⟨"ColumnFormsModel", "digits", "(J)I"⟩
abbrev cMo_whole : ByteArray := prog_12_method_15_code
abbrev yMo_whole : MethodName := ⟨"ColumnFormsModel", "whole", "(I)I"⟩
abbrev cMo_listAll : ByteArray := prog_12_method_13_code
abbrev yMo_listAll : MethodName := ⟨"ColumnFormsModel", "listAll", "()V"⟩
abbrev cMo_placeOf : ByteArray := prog_12_method_14_code
abbrev yMo_placeOf : MethodName := ⟨"ColumnFormsModel", "placeOf", "(J)I"⟩
abbrev cMo_runs : ByteArray := prog_12_method_12_code
abbrev yMo_runs : MethodName := ⟨"ColumnFormsModel", "runs", "()I"⟩
abbrev cMo_greatestStep : ByteArray := prog_12_method_11_code
abbrev yMo_greatestStep : MethodName := ⟨"ColumnFormsModel", "greatestStep", "()J"⟩
abbrev cMo_step : ByteArray := prog_12_method_9_code
abbrev yMo_step : MethodName := ⟨"ColumnFormsModel", "step", "(I)J"⟩
abbrev cMo_leastStep : ByteArray := prog_12_method_10_code
abbrev yMo_leastStep : MethodName := ⟨"ColumnFormsModel", "leastStep", "()J"⟩
abbrev cMo_write : ByteArray := prog_12_method_24_code
abbrev yMo_write : MethodName := ⟨"ColumnFormsModel", "write", "()I"⟩
abbrev cMo_writeIn : ByteArray := prog_12_method_23_code
abbrev yMo_writeIn : MethodName := ⟨"ColumnFormsModel", "writeIn", "(I)I"⟩
abbrev cMo_number : ByteArray := prog_12_method_19_code
abbrev yMo_number : MethodName := ⟨"ColumnFormsModel", "number", "(JI)V"⟩
abbrev cMo_bit : ByteArray := prog_12_method_18_code
abbrev yMo_bit : MethodName := ⟨"ColumnFormsModel", "bit", "(I)V"⟩
abbrev cMo_writeList : ByteArray := prog_12_method_21_code
abbrev yMo_writeList : MethodName := ⟨"ColumnFormsModel", "writeList", "()V"⟩
abbrev cMo_writeRuns : ByteArray := prog_12_method_20_code
abbrev yMo_writeRuns : MethodName := ⟨"ColumnFormsModel", "writeRuns", "()V"⟩
abbrev cMo_writeSteps : ByteArray := prog_12_method_22_code
abbrev yMo_writeSteps : MethodName := ⟨"ColumnFormsModel", "writeSteps", "()V"⟩
abbrev cMo_writeAs : ByteArray := prog_12_method_25_code
abbrev yMo_writeAs : MethodName := ⟨"ColumnFormsModel", "writeAs", "(I)I"⟩
abbrev cMo_form : ByteArray := prog_12_method_26_code
abbrev yMo_form : MethodName := ⟨"ColumnFormsModel", "form", "()I"⟩
abbrev cMo_size : ByteArray := prog_12_method_27_code
abbrev yMo_size : MethodName := ⟨"ColumnFormsModel", "size", "()I"⟩
abbrev cMo_byteAt : ByteArray := prog_12_method_28_code
abbrev yMo_byteAt : MethodName := ⟨"ColumnFormsModel", "byteAt", "(I)I"⟩
abbrev cMo_cell : ByteArray := prog_12_method_29_code
abbrev yMo_cell : MethodName := ⟨"ColumnFormsModel", "cell", "(I)J"⟩
abbrev cMo_count : ByteArray := prog_12_method_31_code
abbrev yMo_count : MethodName := ⟨"ColumnFormsModel", "count", "(IJ)I"⟩
abbrev cMo_is : ByteArray := prog_12_method_30_code
abbrev yMo_is : MethodName := ⟨"ColumnFormsModel", "is", "(IJJ)Z"⟩
abbrev cMo_sum : ByteArray := prog_12_method_32_code
abbrev yMo_sum : MethodName := ⟨"ColumnFormsModel", "sum", "(JJ)J"⟩
abbrev vwCl : List vw_C := [("ColumnForms$Bytes", TBy, 2), ("ColumnForms$Listed", TLi, 1), ("ColumnForms$Packed", TPa, 0), ("ColumnForms$Plain", TPl, 0), ("ColumnForms$Question", TQu, 5), ("ColumnForms$Row", TRo, 9), ("ColumnForms$Runs", TRu, 0), ("ColumnForms$Steps", TSs, 0), ("ColumnForms", TCf, 5), ("ColumnFormsModel", TMo, 11)]
def cfN1 : List (String × Nat × MethodName × String) := [("ColumnForms", 9, ⟨"ColumnForms$Row", "<init>", "()V"⟩, "ColumnForms"), ("ColumnForms", 18, ⟨"ColumnForms$Bytes", "<init>", "()V"⟩, "ColumnForms"), ("ColumnForms", 27, ⟨"ColumnForms$Plain", "<init>", "()V"⟩, "ColumnForms"), ("ColumnForms$Plain", 1, ⟨"ColumnForms$Form", "<init>", "()V"⟩, "ColumnForms"), ("ColumnForms", 30, ⟨"ColumnForms$Packed", "<init>", "()V"⟩, "ColumnForms"), ("ColumnForms$Packed", 1, ⟨"ColumnForms$Form", "<init>", "()V"⟩, "ColumnForms"), ("ColumnForms", 33, ⟨"ColumnForms$Listed", "<init>", "()V"⟩, "ColumnForms"), ("ColumnForms$Listed", 3, ⟨"ColumnForms$Form", "<init>", "()V"⟩, "ColumnForms"), ("ColumnForms", 36, ⟨"ColumnForms$Runs", "<init>", "()V"⟩, "ColumnForms"), ("ColumnForms$Runs", 1, ⟨"ColumnForms$Form", "<init>", "()V"⟩, "ColumnForms"), ("ColumnForms", 39, ⟨"ColumnForms$Steps", "<init>", "()V"⟩, "ColumnForms"), ("ColumnForms$Steps", 1, ⟨"ColumnForms$Form", "<init>", "()V"⟩, "ColumnForms"), ("ColumnForms$Bytes", 19, ⟨"ColumnForms", "wholeBytes", "(I)I"⟩, "ColumnForms"), ("ColumnForms$Listed", 28, ⟨"ColumnForms", "bits", "(J)I"⟩, "ColumnForms"), ("ColumnForms$Listed", 32, ⟨"ColumnForms", "wholeBytes", "(I)I"⟩, "ColumnForms"), ("ColumnForms$Packed", 51, ⟨"ColumnForms", "bits", "(J)I"⟩, "ColumnForms"), ("ColumnForms$Packed", 19, ⟨"ColumnForms", "wholeBytes", "(I)I"⟩, "ColumnForms"), ("ColumnForms$Runs", 15, ⟨"ColumnForms", "wholeBytes", "(I)I"⟩, "ColumnForms"), ("ColumnForms$Steps", 55, ⟨"ColumnForms", "bits", "(J)I"⟩, "ColumnForms"), ("ColumnForms$Steps", 19, ⟨"ColumnForms", "wholeBytes", "(I)I"⟩, "ColumnForms")]
def cfN2 : List MethodName := [⟨"java/lang/RuntimeException", "<init>", "()V"⟩, ⟨"java/lang/RuntimeException", "<init>", "(Ljava/lang/String;)V"⟩, ⟨"java/lang/Exception", "<init>", "()V"⟩, ⟨"java/lang/Exception", "<init>", "(Ljava/lang/String;)V"⟩, ⟨"java/lang/Throwable", "<init>", "()V"⟩, ⟨"java/lang/Throwable", "<init>", "(Ljava/lang/String;)V"⟩, ⟨"ColumnForms$Form", "weigh", "(LColumnForms$Row;)I"⟩, ⟨"ColumnForms$Form", "lay", "(LColumnForms$Row;LColumnForms$Bytes;)V"⟩, ⟨"ColumnForms$Form", "read", "(LColumnForms$Bytes;I)J"⟩, ⟨"ColumnForms$Form", "askAll", "(LColumnForms$Bytes;ILColumnForms$Question;)V"⟩]
def cfN3 : List (String × String) := [("java/lang/IllegalStateException", "java/lang/IllegalStateException"), ("java/lang/IllegalArgumentException", "java/lang/IllegalArgumentException"), ("ColumnForms$Listed", "ColumnForms$Form"), ("ColumnForms$Packed", "ColumnForms$Form"), ("ColumnForms$Plain", "ColumnForms$Form"), ("ColumnForms$Runs", "ColumnForms$Form"), ("ColumnForms$Steps", "ColumnForms$Form")]
abbrev cfFm : String := "ColumnForms$Form"
end
section
theorem tp_w0 : Cond.selects "java/lang/Throwable" ⟨"java/lang/Throwable", "fillInStackTrace", "(I)Ljava/lang/Throwable;"⟩ ⟨"java/lang/Throwable", "fillInStackTrace", "(I)Ljava/lang/Throwable;"⟩ ∈ wsG := wsG_s 0 (by decide +kernel) rfl
theorem tp_w1 : Cond.selects "ColumnForms$Row" ⟨"ColumnForms$Row", "noteFirst", "(J)V"⟩ ⟨"ColumnForms$Row", "noteFirst", "(J)V"⟩ ∈ wsG := wsG_s 1 (by decide +kernel) rfl
theorem tp_w2 : Cond.selects "ColumnForms$Row" ⟨"ColumnForms$Row", "noteNext", "(JJ)V"⟩ ⟨"ColumnForms$Row", "noteNext", "(JJ)V"⟩ ∈ wsG := wsG_s 2 (by decide +kernel) rfl
theorem tp_w3 : Cond.selects "ColumnForms$Row" ⟨"ColumnForms$Row", "noteDifferent", "(JI)V"⟩ ⟨"ColumnForms$Row", "noteDifferent", "(JI)V"⟩ ∈ wsG := wsG_s 3 (by decide +kernel) rfl
theorem tp_w4 : Cond.selects "ColumnForms" ⟨"ColumnForms", "refuseEmptyRow", "()V"⟩ ⟨"ColumnForms", "refuseEmptyRow", "()V"⟩ ∈ wsG := wsG_s 4 (by decide +kernel) rfl
theorem tp_w5 : Cond.selects "ColumnForms" ⟨"ColumnForms", "lightestForm", "()I"⟩ ⟨"ColumnForms", "lightestForm", "()I"⟩ ∈ wsG := wsG_s 5 (by decide +kernel) rfl
theorem tp_w6 : Cond.selects "ColumnForms" ⟨"ColumnForms", "writeRow", "(I)I"⟩ ⟨"ColumnForms", "writeRow", "(I)I"⟩ ∈ wsG := wsG_s 6 (by decide +kernel) rfl
theorem tp_w7 : Cond.selects "ColumnForms$Bytes" ⟨"ColumnForms$Bytes", "addToLast", "(II)V"⟩ ⟨"ColumnForms$Bytes", "addToLast", "(II)V"⟩ ∈ wsG := wsG_s 7 (by decide +kernel) rfl
theorem tp_w8 : Cond.selects "ColumnForms" ⟨"ColumnForms", "refuseNoColumn", "()V"⟩ ⟨"ColumnForms", "refuseNoColumn", "()V"⟩ ∈ wsG := wsG_s 8 (by decide +kernel) rfl
theorem tp_w9 : Cond.selects "ColumnForms$Listed" ⟨"ColumnForms$Listed", "countPlaces", "(LColumnForms$Bytes;II)V"⟩ ⟨"ColumnForms$Listed", "countPlaces", "(LColumnForms$Bytes;II)V"⟩ ∈ wsG := wsG_s 9 (by decide +kernel) rfl
theorem tp_w10 : Cond.selects "ColumnForms$Question" ⟨"ColumnForms$Question", "fits", "(J)Z"⟩ ⟨"ColumnForms$Question", "fits", "(J)Z"⟩ ∈ wsG := wsG_s 10 (by decide +kernel) rfl
theorem tp_w11 : Cond.selects "ColumnFormsModel" ⟨"ColumnFormsModel", "weigh", "(I)I"⟩ ⟨"ColumnFormsModel", "weigh", "(I)I"⟩ ∈ wsG := wsG_s 11 (by decide +kernel) rfl
theorem tp_w12 : Cond.selects "ColumnFormsModel" ⟨"ColumnFormsModel", "greatest", "()J"⟩ ⟨"ColumnFormsModel", "greatest", "()J"⟩ ∈ wsG := wsG_s 12 (by decide +kernel) rfl
theorem tp_w13 : Cond.selects "ColumnFormsModel" ⟨"ColumnFormsModel", "least", "()J"⟩ ⟨"ColumnFormsModel", "least", "()J"⟩ ∈ wsG := wsG_s 13 (by decide +kernel) rfl
theorem tp_w14 : Cond.selects "ColumnFormsModel" ⟨"ColumnFormsModel", "listAll", "()V"⟩ ⟨"ColumnFormsModel", "listAll", "()V"⟩ ∈ wsG := wsG_s 14 (by decide +kernel) rfl
theorem tp_w15 : Cond.selects "ColumnFormsModel" ⟨"ColumnFormsModel", "placeOf", "(J)I"⟩ ⟨"ColumnFormsModel", "placeOf", "(J)I"⟩ ∈ wsG := wsG_s 15 (by decide +kernel) rfl
theorem tp_w16 : Cond.selects "ColumnFormsModel" ⟨"ColumnFormsModel", "runs", "()I"⟩ ⟨"ColumnFormsModel", "runs", "()I"⟩ ∈ wsG := wsG_s 16 (by decide +kernel) rfl
theorem tp_w17 : Cond.selects "ColumnFormsModel" ⟨"ColumnFormsModel", "greatestStep", "()J"⟩ ⟨"ColumnFormsModel", "greatestStep", "()J"⟩ ∈ wsG := wsG_s 17 (by decide +kernel) rfl
theorem tp_w18 : Cond.selects "ColumnFormsModel" ⟨"ColumnFormsModel", "step", "(I)J"⟩ ⟨"ColumnFormsModel", "step", "(I)J"⟩ ∈ wsG := wsG_s 18 (by decide +kernel) rfl
theorem tp_w19 : Cond.selects "ColumnFormsModel" ⟨"ColumnFormsModel", "leastStep", "()J"⟩ ⟨"ColumnFormsModel", "leastStep", "()J"⟩ ∈ wsG := wsG_s 19 (by decide +kernel) rfl
theorem tp_w20 : Cond.selects "ColumnFormsModel" ⟨"ColumnFormsModel", "writeIn", "(I)I"⟩ ⟨"ColumnFormsModel", "writeIn", "(I)I"⟩ ∈ wsG := wsG_s 20 (by decide +kernel) rfl
theorem tp_w21 : Cond.selects "ColumnFormsModel" ⟨"ColumnFormsModel", "number", "(JI)V"⟩ ⟨"ColumnFormsModel", "number", "(JI)V"⟩ ∈ wsG := wsG_s 21 (by decide +kernel) rfl
theorem tp_w22 : Cond.selects "ColumnFormsModel" ⟨"ColumnFormsModel", "bit", "(I)V"⟩ ⟨"ColumnFormsModel", "bit", "(I)V"⟩ ∈ wsG := wsG_s 22 (by decide +kernel) rfl
theorem tp_w23 : Cond.selects "ColumnFormsModel" ⟨"ColumnFormsModel", "writeList", "()V"⟩ ⟨"ColumnFormsModel", "writeList", "()V"⟩ ∈ wsG := wsG_s 23 (by decide +kernel) rfl
theorem tp_w24 : Cond.selects "ColumnFormsModel" ⟨"ColumnFormsModel", "writeRuns", "()V"⟩ ⟨"ColumnFormsModel", "writeRuns", "()V"⟩ ∈ wsG := wsG_s 24 (by decide +kernel) rfl
theorem tp_w25 : Cond.selects "ColumnFormsModel" ⟨"ColumnFormsModel", "writeSteps", "()V"⟩ ⟨"ColumnFormsModel", "writeSteps", "()V"⟩ ∈ wsG := wsG_s 25 (by decide +kernel) rfl
theorem tw_0 : Cond.initialized "ColumnFormsLaw" ∈ wsG := wsG_t 0 (by decide +kernel) rfl
theorem tw_1 : Cond.initialized "ColumnForms" ∈ wsG := wsG_t 1 (by decide +kernel) rfl
theorem tw_2 : Cond.initialized "ColumnForms$Row" ∈ wsG := wsG_t 2 (by decide +kernel) rfl
theorem tw_3 : Cond.initialized "ColumnForms$Bytes" ∈ wsG := wsG_t 3 (by decide +kernel) rfl
theorem tw_4 : Cond.initialized "ColumnForms$Form" ∈ wsG := wsG_t 4 (by decide +kernel) rfl
theorem tw_5 : Cond.initialized "ColumnForms$Plain" ∈ wsG := wsG_t 5 (by decide +kernel) rfl
theorem tw_6 : Cond.initialized "ColumnForms$Packed" ∈ wsG := wsG_t 6 (by decide +kernel) rfl
theorem tw_7 : Cond.initialized "ColumnForms$Listed" ∈ wsG := wsG_t 7 (by decide +kernel) rfl
theorem tw_8 : Cond.initialized "ColumnForms$Runs" ∈ wsG := wsG_t 8 (by decide +kernel) rfl
theorem tw_9 : Cond.initialized "ColumnForms$Steps" ∈ wsG := wsG_t 9 (by decide +kernel) rfl
theorem tw_10 : Cond.initialized "ColumnFormsModel" ∈ wsG := wsG_t 10 (by decide +kernel) rfl
theorem tw_11 : Cond.initialized "java/lang/Throwable" ∈ wsG := wsG_t 11 (by decide +kernel) rfl
theorem tw_12 : Cond.initialized "java/lang/Exception" ∈ wsG := wsG_t 12 (by decide +kernel) rfl
theorem tw_13 : Cond.initialized "java/lang/RuntimeException" ∈ wsG := wsG_t 13 (by decide +kernel) rfl
theorem tw_14 : Cond.initialized "java/lang/IllegalStateException" ∈ wsG := wsG_t 14 (by decide +kernel) rfl
theorem tw_15 : Cond.initialized "java/lang/Math" ∈ wsG := wsG_t 15 (by decide +kernel) rfl
theorem tw_16 : Cond.initialized "java/lang/System" ∈ wsG := wsG_t 16 (by decide +kernel) rfl
theorem tw_17 : Cond.initialized "java/lang/IllegalArgumentException" ∈ wsG := wsG_t 17 (by decide +kernel) rfl
theorem tw_18 : Cond.initialized "java/lang/Long" ∈ wsG := wsG_t 18 (by decide +kernel) rfl
theorem tw_19 : Cond.initialized "java/lang/Integer" ∈ wsG := wsG_t 19 (by decide +kernel) rfl
theorem tw_20 : Cond.initialized "ColumnForms$Question" ∈ wsG := wsG_t 20 (by decide +kernel) rfl
theorem tw_21 : Cond.initialized "java/util/Arrays" ∈ wsG := wsG_t 21 (by decide +kernel) rfl
theorem tw_22 : Cond.classLink "ColumnFormsLaw" 8 "ColumnForms" ∈ wsG := wsG_t 22 (by decide +kernel) rfl
theorem tw_23 : Cond.instantiable "ColumnForms" 5 ∈ wsG := wsG_t 23 (by decide +kernel) rfl
theorem tw_24 : Cond.methodLink "ColumnFormsLaw" 47 ⟨"ColumnForms", "<init>", "()V"⟩ ∈ wsG := wsG_t 24 (by decide +kernel) rfl
theorem tw_25 : Cond.instanceMethod ⟨"ColumnForms", "<init>", "()V"⟩ ∈ wsG := wsG_t 25 (by decide +kernel) rfl
theorem tw_26 : Cond.code ⟨"ColumnForms", "<init>", "()V"⟩ prog_1_method_1_code 1 none ∈ wsG := wsG_t 26 (by decide +kernel) rfl
theorem tw_27 : Cond.methodLink "ColumnForms" 1 ⟨"java/lang/Object", "<init>", "()V"⟩ ∈ wsG := wsG_t 27 (by decide +kernel) rfl
theorem tw_28 : Cond.instanceMethod ⟨"java/lang/Object", "<init>", "()V"⟩ ∈ wsG := wsG_t 28 (by decide +kernel) rfl
theorem tw_29 : Cond.code ⟨"java/lang/Object", "<init>", "()V"⟩ object_method_1_code 1 none ∈ wsG := wsG_t 29 (by decide +kernel) rfl
theorem tw_30 : Cond.classLink "ColumnForms" 7 "ColumnForms$Row" ∈ wsG := wsG_t 30 (by decide +kernel) rfl
theorem tw_31 : Cond.instantiable "ColumnForms$Row" 9 ∈ wsG := wsG_t 31 (by decide +kernel) rfl
theorem tw_33 : Cond.instanceMethod ⟨"ColumnForms$Row", "<init>", "()V"⟩ ∈ wsG := wsG_t 33 (by decide +kernel) rfl
theorem tw_34 : Cond.code ⟨"ColumnForms$Row", "<init>", "()V"⟩ prog_8_method_1_code 1 none ∈ wsG := wsG_t 34 (by decide +kernel) rfl
theorem tw_35 : Cond.methodLink "ColumnForms$Row" 3 ⟨"java/lang/Object", "<init>", "()V"⟩ ∈ wsG := wsG_t 35 (by decide +kernel) rfl
theorem tw_36 : Cond.fieldLink "ColumnForms$Packed" 9 "ColumnForms$Row" "length" "I" ∈ wsG := wsG_t 36 (by decide +kernel) rfl
theorem tw_37 : Cond.fieldLink "ColumnForms$Plain" 7 "ColumnForms$Row" "length" "I" ∈ wsG := wsG_t 37 (by decide +kernel) rfl
theorem tw_38 : Cond.fieldLink "ColumnForms" 51 "ColumnForms$Row" "length" "I" ∈ wsG := wsG_t 38 (by decide +kernel) rfl
theorem tw_39 : Cond.fieldLink "ColumnForms$Steps" 9 "ColumnForms$Row" "length" "I" ∈ wsG := wsG_t 39 (by decide +kernel) rfl
theorem tw_40 : Cond.fieldLink "ColumnForms$Row" 18 "ColumnForms$Row" "length" "I" ∈ wsG := wsG_t 40 (by decide +kernel) rfl
theorem tw_41 : Cond.fieldLink "ColumnForms$Listed" 25 "ColumnForms$Row" "length" "I" ∈ wsG := wsG_t 41 (by decide +kernel) rfl
theorem tw_42 : Cond.fieldLink "ColumnForms$Runs" 27 "ColumnForms$Row" "length" "I" ∈ wsG := wsG_t 42 (by decide +kernel) rfl
theorem tw_43 : Cond.fieldLink "ColumnForms$Listed" 15 "ColumnForms$Row" "different" "I" ∈ wsG := wsG_t 43 (by decide +kernel) rfl
theorem tw_44 : Cond.fieldLink "ColumnForms$Row" 22 "ColumnForms$Row" "different" "I" ∈ wsG := wsG_t 44 (by decide +kernel) rfl
theorem tw_45 : Cond.fieldLink "ColumnForms$Runs" 9 "ColumnForms$Row" "runs" "I" ∈ wsG := wsG_t 45 (by decide +kernel) rfl
theorem tw_46 : Cond.fieldLink "ColumnForms$Row" 29 "ColumnForms$Row" "runs" "I" ∈ wsG := wsG_t 46 (by decide +kernel) rfl
theorem tw_47 : Cond.fieldLink "ColumnForms$Packed" 25 "ColumnForms$Row" "least" "J" ∈ wsG := wsG_t 47 (by decide +kernel) rfl
theorem tw_48 : Cond.fieldLink "ColumnForms$Row" 51 "ColumnForms$Row" "least" "J" ∈ wsG := wsG_t 48 (by decide +kernel) rfl
theorem tw_49 : Cond.fieldLink "ColumnForms$Packed" 48 "ColumnForms$Row" "greatest" "J" ∈ wsG := wsG_t 49 (by decide +kernel) rfl
theorem tw_50 : Cond.fieldLink "ColumnForms$Row" 55 "ColumnForms$Row" "greatest" "J" ∈ wsG := wsG_t 50 (by decide +kernel) rfl
theorem tw_51 : Cond.fieldLink "ColumnForms$Steps" 35 "ColumnForms$Row" "leastStep" "J" ∈ wsG := wsG_t 51 (by decide +kernel) rfl
theorem tw_52 : Cond.fieldLink "ColumnForms$Row" 58 "ColumnForms$Row" "leastStep" "J" ∈ wsG := wsG_t 52 (by decide +kernel) rfl
theorem tw_53 : Cond.fieldLink "ColumnForms$Steps" 52 "ColumnForms$Row" "greatestStep" "J" ∈ wsG := wsG_t 53 (by decide +kernel) rfl
theorem tw_54 : Cond.fieldLink "ColumnForms$Row" 61 "ColumnForms$Row" "greatestStep" "J" ∈ wsG := wsG_t 54 (by decide +kernel) rfl
theorem tw_55 : Cond.fieldLink "ColumnForms$Row" 9 "ColumnForms$Row" "cells" "[J" ∈ wsG := wsG_t 55 (by decide +kernel) rfl
theorem tw_56 : Cond.fieldLink "ColumnForms$Row" 15 "ColumnForms$Row" "rising" "[J" ∈ wsG := wsG_t 56 (by decide +kernel) rfl
theorem tw_57 : Cond.lays "ColumnForms$Row" "ColumnForms$Row" "length" "I" ∈ wsG := wsG_t 57 (by decide +kernel) rfl
theorem tw_59 : Cond.lays "ColumnForms$Row" "ColumnForms$Row" "different" "I" ∈ wsG := wsG_t 59 (by decide +kernel) rfl
theorem tw_61 : Cond.lays "ColumnForms$Row" "ColumnForms$Row" "runs" "I" ∈ wsG := wsG_t 61 (by decide +kernel) rfl
theorem tw_63 : Cond.lays "ColumnForms$Row" "ColumnForms$Row" "least" "J" ∈ wsG := wsG_t 63 (by decide +kernel) rfl
theorem tw_65 : Cond.lays "ColumnForms$Row" "ColumnForms$Row" "greatest" "J" ∈ wsG := wsG_t 65 (by decide +kernel) rfl
theorem tw_67 : Cond.lays "ColumnForms$Row" "ColumnForms$Row" "leastStep" "J" ∈ wsG := wsG_t 67 (by decide +kernel) rfl
theorem tw_69 : Cond.lays "ColumnForms$Row" "ColumnForms$Row" "greatestStep" "J" ∈ wsG := wsG_t 69 (by decide +kernel) rfl
theorem tw_71 : Cond.laysFinal "ColumnForms$Row" "ColumnForms$Row" "cells" "[J" ∈ wsG := wsG_t 71 (by decide +kernel) rfl
theorem tw_73 : Cond.laysFinal "ColumnForms$Row" "ColumnForms$Row" "rising" "[J" ∈ wsG := wsG_t 73 (by decide +kernel) rfl
theorem tw_75 : Cond.superclass "ColumnForms$Row" "java/lang/Object" ∈ wsG := wsG_t 75 (by decide +kernel) rfl
theorem tw_76 : Cond.arrayClass .long ∈ wsG := wsG_t 76 (by decide +kernel) rfl
theorem tw_77 : Cond.classLink "ColumnForms" 16 "ColumnForms$Bytes" ∈ wsG := wsG_t 77 (by decide +kernel) rfl
theorem tw_78 : Cond.instantiable "ColumnForms$Bytes" 2 ∈ wsG := wsG_t 78 (by decide +kernel) rfl
theorem tw_80 : Cond.instanceMethod ⟨"ColumnForms$Bytes", "<init>", "()V"⟩ ∈ wsG := wsG_t 80 (by decide +kernel) rfl
theorem tw_81 : Cond.code ⟨"ColumnForms$Bytes", "<init>", "()V"⟩ prog_2_method_1_code 1 none ∈ wsG := wsG_t 81 (by decide +kernel) rfl
theorem tw_82 : Cond.methodLink "ColumnForms$Bytes" 3 ⟨"java/lang/Object", "<init>", "()V"⟩ ∈ wsG := wsG_t 82 (by decide +kernel) rfl
theorem tw_83 : Cond.fieldLink "ColumnForms$Bytes" 9 "ColumnForms$Bytes" "octets" "[B" ∈ wsG := wsG_t 83 (by decide +kernel) rfl
theorem tw_84 : Cond.fieldLink "ColumnForms$Bytes" 15 "ColumnForms$Bytes" "bitCount" "I" ∈ wsG := wsG_t 84 (by decide +kernel) rfl
theorem tw_85 : Cond.lays "ColumnForms$Bytes" "ColumnForms$Bytes" "octets" "[B" ∈ wsG := wsG_t 85 (by decide +kernel) rfl
theorem tw_87 : Cond.lays "ColumnForms$Bytes" "ColumnForms$Bytes" "bitCount" "I" ∈ wsG := wsG_t 87 (by decide +kernel) rfl
theorem tw_89 : Cond.superclass "ColumnForms$Bytes" "java/lang/Object" ∈ wsG := wsG_t 89 (by decide +kernel) rfl
theorem tw_90 : Cond.arrayClass .byte ∈ wsG := wsG_t 90 (by decide +kernel) rfl
theorem tw_91 : Cond.classLink "ColumnForms" 23 "ColumnForms$Form" ∈ wsG := wsG_t 91 (by decide +kernel) rfl
theorem tw_93 : Cond.classLink "ColumnForms" 25 "ColumnForms$Plain" ∈ wsG := wsG_t 93 (by decide +kernel) rfl
theorem tw_94 : Cond.instantiable "ColumnForms$Plain" 0 ∈ wsG := wsG_t 94 (by decide +kernel) rfl
theorem tw_96 : Cond.instanceMethod ⟨"ColumnForms$Plain", "<init>", "()V"⟩ ∈ wsG := wsG_t 96 (by decide +kernel) rfl
theorem tw_97 : Cond.code ⟨"ColumnForms$Plain", "<init>", "()V"⟩ prog_6_method_1_code 1 none ∈ wsG := wsG_t 97 (by decide +kernel) rfl
theorem tw_99 : Cond.instanceMethod ⟨"ColumnForms$Form", "<init>", "()V"⟩ ∈ wsG := wsG_t 99 (by decide +kernel) rfl
theorem tw_100 : Cond.code ⟨"ColumnForms$Form", "<init>", "()V"⟩ prog_3_method_1_code 1 none ∈ wsG := wsG_t 100 (by decide +kernel) rfl
theorem tw_101 : Cond.methodLink "ColumnForms$Form" 1 ⟨"java/lang/Object", "<init>", "()V"⟩ ∈ wsG := wsG_t 101 (by decide +kernel) rfl
theorem tw_102 : Cond.superclass "ColumnForms$Plain" "ColumnForms$Form" ∈ wsG := wsG_t 102 (by decide +kernel) rfl
theorem tw_103 : Cond.classLink "ColumnForms" 28 "ColumnForms$Packed" ∈ wsG := wsG_t 103 (by decide +kernel) rfl
theorem tw_104 : Cond.instantiable "ColumnForms$Packed" 0 ∈ wsG := wsG_t 104 (by decide +kernel) rfl
theorem tw_106 : Cond.instanceMethod ⟨"ColumnForms$Packed", "<init>", "()V"⟩ ∈ wsG := wsG_t 106 (by decide +kernel) rfl
theorem tw_107 : Cond.code ⟨"ColumnForms$Packed", "<init>", "()V"⟩ prog_5_method_1_code 1 none ∈ wsG := wsG_t 107 (by decide +kernel) rfl
theorem tw_109 : Cond.superclass "ColumnForms$Packed" "ColumnForms$Form" ∈ wsG := wsG_t 109 (by decide +kernel) rfl
theorem tw_110 : Cond.classLink "ColumnForms" 31 "ColumnForms$Listed" ∈ wsG := wsG_t 110 (by decide +kernel) rfl
theorem tw_111 : Cond.instantiable "ColumnForms$Listed" 1 ∈ wsG := wsG_t 111 (by decide +kernel) rfl
theorem tw_113 : Cond.instanceMethod ⟨"ColumnForms$Listed", "<init>", "()V"⟩ ∈ wsG := wsG_t 113 (by decide +kernel) rfl
theorem tw_114 : Cond.code ⟨"ColumnForms$Listed", "<init>", "()V"⟩ prog_4_method_1_code 1 none ∈ wsG := wsG_t 114 (by decide +kernel) rfl
theorem tw_116 : Cond.fieldLink "ColumnForms$Listed" 9 "ColumnForms$Listed" "often" "[I" ∈ wsG := wsG_t 116 (by decide +kernel) rfl
theorem tw_117 : Cond.laysFinal "ColumnForms$Listed" "ColumnForms$Listed" "often" "[I" ∈ wsG := wsG_t 117 (by decide +kernel) rfl
theorem tw_119 : Cond.superclass "ColumnForms$Listed" "ColumnForms$Form" ∈ wsG := wsG_t 119 (by decide +kernel) rfl
theorem tw_120 : Cond.arrayClass .int ∈ wsG := wsG_t 120 (by decide +kernel) rfl
theorem tw_121 : Cond.classLink "ColumnForms" 34 "ColumnForms$Runs" ∈ wsG := wsG_t 121 (by decide +kernel) rfl
theorem tw_122 : Cond.instantiable "ColumnForms$Runs" 0 ∈ wsG := wsG_t 122 (by decide +kernel) rfl
theorem tw_124 : Cond.instanceMethod ⟨"ColumnForms$Runs", "<init>", "()V"⟩ ∈ wsG := wsG_t 124 (by decide +kernel) rfl
theorem tw_125 : Cond.code ⟨"ColumnForms$Runs", "<init>", "()V"⟩ prog_9_method_1_code 1 none ∈ wsG := wsG_t 125 (by decide +kernel) rfl
theorem tw_127 : Cond.superclass "ColumnForms$Runs" "ColumnForms$Form" ∈ wsG := wsG_t 127 (by decide +kernel) rfl
theorem tw_128 : Cond.classLink "ColumnForms" 37 "ColumnForms$Steps" ∈ wsG := wsG_t 128 (by decide +kernel) rfl
theorem tw_129 : Cond.instantiable "ColumnForms$Steps" 0 ∈ wsG := wsG_t 129 (by decide +kernel) rfl
theorem tw_131 : Cond.instanceMethod ⟨"ColumnForms$Steps", "<init>", "()V"⟩ ∈ wsG := wsG_t 131 (by decide +kernel) rfl
theorem tw_132 : Cond.code ⟨"ColumnForms$Steps", "<init>", "()V"⟩ prog_10_method_1_code 1 none ∈ wsG := wsG_t 132 (by decide +kernel) rfl
theorem tw_134 : Cond.superclass "ColumnForms$Steps" "ColumnForms$Form" ∈ wsG := wsG_t 134 (by decide +kernel) rfl
theorem tw_135 : Cond.fieldLink "ColumnForms" 10 "ColumnForms" "row" "LColumnForms$Row;" ∈ wsG := wsG_t 135 (by decide +kernel) rfl
theorem tw_136 : Cond.fieldLink "ColumnForms" 19 "ColumnForms" "column" "LColumnForms$Bytes;" ∈ wsG := wsG_t 136 (by decide +kernel) rfl
theorem tw_137 : Cond.fieldLink "ColumnForms" 40 "ColumnForms" "forms" "[LColumnForms$Form;" ∈ wsG := wsG_t 137 (by decide +kernel) rfl
theorem tw_138 : Cond.fieldLink "ColumnForms" 44 "ColumnForms" "columnForm" "I" ∈ wsG := wsG_t 138 (by decide +kernel) rfl
theorem tw_139 : Cond.fieldLink "ColumnForms" 48 "ColumnForms" "columnCells" "I" ∈ wsG := wsG_t 139 (by decide +kernel) rfl
theorem tw_140 : Cond.laysFinal "ColumnForms" "ColumnForms" "row" "LColumnForms$Row;" ∈ wsG := wsG_t 140 (by decide +kernel) rfl
theorem tw_142 : Cond.laysFinal "ColumnForms" "ColumnForms" "column" "LColumnForms$Bytes;" ∈ wsG := wsG_t 142 (by decide +kernel) rfl
theorem tw_144 : Cond.laysFinal "ColumnForms" "ColumnForms" "forms" "[LColumnForms$Form;" ∈ wsG := wsG_t 144 (by decide +kernel) rfl
theorem tw_146 : Cond.lays "ColumnForms" "ColumnForms" "columnForm" "I" ∈ wsG := wsG_t 146 (by decide +kernel) rfl
theorem tw_148 : Cond.lays "ColumnForms" "ColumnForms" "columnCells" "I" ∈ wsG := wsG_t 148 (by decide +kernel) rfl
theorem tw_150 : Cond.superclass "ColumnForms" "java/lang/Object" ∈ wsG := wsG_t 150 (by decide +kernel) rfl
theorem tw_151 : Cond.methodLink "ColumnFormsLaw" 66 ⟨"ColumnForms", "clear", "()I"⟩ ∈ wsG := wsG_t 151 (by decide +kernel) rfl
theorem tw_152 : Cond.instanceMethod ⟨"ColumnForms", "clear", "()I"⟩ ∈ wsG := wsG_t 152 (by decide +kernel) rfl
theorem tw_153 : Cond.selects "ColumnForms" ⟨"ColumnForms", "clear", "()I"⟩ ⟨"ColumnForms", "clear", "()I"⟩ ∈ wsG := wsG_t 153 (by decide +kernel) rfl
theorem tw_154 : Cond.code ⟨"ColumnForms", "clear", "()I"⟩ prog_1_method_4_code 2 (some .int) ∈ wsG := wsG_t 154 (by decide +kernel) rfl
theorem tw_155 : Cond.methodLink "ColumnForms" 72 ⟨"ColumnForms$Row", "empty", "()V"⟩ ∈ wsG := wsG_t 155 (by decide +kernel) rfl
theorem tw_156 : Cond.instanceMethod ⟨"ColumnForms$Row", "empty", "()V"⟩ ∈ wsG := wsG_t 156 (by decide +kernel) rfl
theorem tw_157 : Cond.selects "ColumnForms$Row" ⟨"ColumnForms$Row", "empty", "()V"⟩ ⟨"ColumnForms$Row", "empty", "()V"⟩ ∈ wsG := wsG_t 157 (by decide +kernel) rfl
theorem tw_158 : Cond.code ⟨"ColumnForms$Row", "empty", "()V"⟩ prog_8_method_5_code 1 none ∈ wsG := wsG_t 158 (by decide +kernel) rfl
theorem tw_159 : Cond.methodLink "ColumnFormsLaw" 81 ⟨"ColumnForms", "form", "()I"⟩ ∈ wsG := wsG_t 159 (by decide +kernel) rfl
theorem tw_160 : Cond.instanceMethod ⟨"ColumnForms", "form", "()I"⟩ ∈ wsG := wsG_t 160 (by decide +kernel) rfl
theorem tw_161 : Cond.selects "ColumnForms" ⟨"ColumnForms", "form", "()I"⟩ ⟨"ColumnForms", "form", "()I"⟩ ∈ wsG := wsG_t 161 (by decide +kernel) rfl
theorem tw_162 : Cond.code ⟨"ColumnForms", "form", "()I"⟩ prog_1_method_8_code 1 (some .int) ∈ wsG := wsG_t 162 (by decide +kernel) rfl
theorem tw_163 : Cond.methodLink "ColumnFormsLaw" 85 ⟨"ColumnForms", "size", "()I"⟩ ∈ wsG := wsG_t 163 (by decide +kernel) rfl
theorem tw_164 : Cond.instanceMethod ⟨"ColumnForms", "size", "()I"⟩ ∈ wsG := wsG_t 164 (by decide +kernel) rfl
theorem tw_165 : Cond.selects "ColumnForms" ⟨"ColumnForms", "size", "()I"⟩ ⟨"ColumnForms", "size", "()I"⟩ ∈ wsG := wsG_t 165 (by decide +kernel) rfl
theorem tw_166 : Cond.code ⟨"ColumnForms", "size", "()I"⟩ prog_1_method_9_code 1 (some .int) ∈ wsG := wsG_t 166 (by decide +kernel) rfl
theorem tw_167 : Cond.methodLink "ColumnForms" 94 ⟨"ColumnForms$Bytes", "length", "()I"⟩ ∈ wsG := wsG_t 167 (by decide +kernel) rfl
theorem tw_168 : Cond.instanceMethod ⟨"ColumnForms$Bytes", "length", "()I"⟩ ∈ wsG := wsG_t 168 (by decide +kernel) rfl
theorem tw_169 : Cond.selects "ColumnForms$Bytes" ⟨"ColumnForms$Bytes", "length", "()I"⟩ ⟨"ColumnForms$Bytes", "length", "()I"⟩ ∈ wsG := wsG_t 169 (by decide +kernel) rfl
theorem tw_170 : Cond.code ⟨"ColumnForms$Bytes", "length", "()I"⟩ prog_2_method_2_code 1 (some .int) ∈ wsG := wsG_t 170 (by decide +kernel) rfl
theorem tw_172 : Cond.static ⟨"ColumnForms", "wholeBytes", "(I)I"⟩ ∈ wsG := wsG_t 172 (by decide +kernel) rfl
theorem tw_173 : Cond.code ⟨"ColumnForms", "wholeBytes", "(I)I"⟩ prog_1_method_20_code 1 (some .int) ∈ wsG := wsG_t 173 (by decide +kernel) rfl
theorem tw_174 : Cond.methodLink "ColumnFormsLaw" 53 ⟨"ColumnFormsLaw", "put", "(LColumnForms;J[J)I"⟩ ∈ wsG := wsG_t 174 (by decide +kernel) rfl
theorem tw_175 : Cond.static ⟨"ColumnFormsLaw", "put", "(LColumnForms;J[J)I"⟩ ∈ wsG := wsG_t 175 (by decide +kernel) rfl
theorem tw_176 : Cond.codeWith ⟨"ColumnFormsLaw", "put", "(LColumnForms;J[J)I"⟩ method_3_code 5 (some .int) [(0, 9, 12, 13)] ∈ wsG := wsG_t 176 (by decide +kernel) rfl
theorem tw_177 : Cond.classLink "ColumnFormsLaw" 13 "java/lang/IllegalStateException" ∈ wsG := wsG_t 177 (by decide +kernel) rfl
theorem tw_178 : Cond.methodLink "ColumnFormsLaw" 7 ⟨"ColumnForms", "put", "(J)I"⟩ ∈ wsG := wsG_t 178 (by decide +kernel) rfl
theorem tw_179 : Cond.instanceMethod ⟨"ColumnForms", "put", "(J)I"⟩ ∈ wsG := wsG_t 179 (by decide +kernel) rfl
theorem tw_180 : Cond.selects "ColumnForms" ⟨"ColumnForms", "put", "(J)I"⟩ ⟨"ColumnForms", "put", "(J)I"⟩ ∈ wsG := wsG_t 180 (by decide +kernel) rfl
theorem tw_181 : Cond.code ⟨"ColumnForms", "put", "(J)I"⟩ prog_1_method_2_code 3 (some .int) ∈ wsG := wsG_t 181 (by decide +kernel) rfl
theorem tw_182 : Cond.classLink "ColumnForms" 54 "java/lang/IllegalStateException" ∈ wsG := wsG_t 182 (by decide +kernel) rfl
theorem tw_183 : Cond.instantiable "java/lang/IllegalStateException" 6 ∈ wsG := wsG_t 183 (by decide +kernel) rfl
theorem tw_191 : Cond.selects "java/lang/IllegalStateException" ⟨"java/lang/Throwable", "fillInStackTrace", "(I)Ljava/lang/Throwable;"⟩ ⟨"java/lang/Throwable", "fillInStackTrace", "(I)Ljava/lang/Throwable;"⟩ ∈ wsG := wsG_t 191 (by decide +kernel) rfl
theorem tw_192 : Cond.selects "java/lang/IllegalStateException" ⟨"java/lang/Throwable", "fillInStackTrace", "()Ljava/lang/Throwable;"⟩ ⟨"java/lang/Throwable", "fillInStackTrace", "()Ljava/lang/Throwable;"⟩ ∈ wsG := wsG_t 192 (by decide +kernel) rfl
theorem tw_193 : Cond.lays "java/lang/IllegalStateException" "java/lang/Throwable" "cause" "Ljava/lang/Throwable;" ∈ wsG := wsG_t 193 (by decide +kernel) rfl
theorem tw_194 : Cond.lays "java/lang/Throwable" "java/lang/Throwable" "cause" "Ljava/lang/Throwable;" ∈ wsG := wsG_t 194 (by decide +kernel) rfl
theorem tw_195 : Cond.lays "java/lang/IllegalStateException" "java/lang/Throwable" "stackTrace" "[Ljava/lang/StackTraceElement;" ∈ wsG := wsG_t 195 (by decide +kernel) rfl
theorem tw_196 : Cond.lays "java/lang/Throwable" "java/lang/Throwable" "stackTrace" "[Ljava/lang/StackTraceElement;" ∈ wsG := wsG_t 196 (by decide +kernel) rfl
theorem tw_197 : Cond.lays "java/lang/IllegalStateException" "java/lang/Throwable" "suppressedExceptions" "Ljava/util/List;" ∈ wsG := wsG_t 197 (by decide +kernel) rfl
theorem tw_198 : Cond.lays "java/lang/Throwable" "java/lang/Throwable" "suppressedExceptions" "Ljava/util/List;" ∈ wsG := wsG_t 198 (by decide +kernel) rfl
theorem tw_199 : Cond.lays "java/lang/IllegalStateException" "java/lang/Throwable" "detailMessage" "Ljava/lang/String;" ∈ wsG := wsG_t 199 (by decide +kernel) rfl
theorem tw_200 : Cond.lays "java/lang/Throwable" "java/lang/Throwable" "detailMessage" "Ljava/lang/String;" ∈ wsG := wsG_t 200 (by decide +kernel) rfl
theorem tw_201 : Cond.lays "java/lang/IllegalStateException" "java/lang/Throwable" "backtrace" "Ljava/lang/Object;" ∈ wsG := wsG_t 201 (by decide +kernel) rfl
theorem tw_202 : Cond.lays "java/lang/Throwable" "java/lang/Throwable" "backtrace" "Ljava/lang/Object;" ∈ wsG := wsG_t 202 (by decide +kernel) rfl
theorem tw_203 : Cond.fieldLink "java/lang/Throwable" 198 "java/lang/Throwable" "backtrace" "Ljava/lang/Object;" ∈ wsG := wsG_t 203 (by decide +kernel) rfl
theorem tw_204 : Cond.superclass "java/lang/Throwable" "java/lang/Object" ∈ wsG := wsG_t 204 (by decide +kernel) rfl
theorem tw_205 : Cond.instanceMethod ⟨"java/lang/Throwable", "<init>", "()V"⟩ ∈ wsG := wsG_t 205 (by decide +kernel) rfl
theorem tw_206 : Cond.code ⟨"java/lang/Throwable", "<init>", "()V"⟩ prog_22_method_1_code 1 none ∈ wsG := wsG_t 206 (by decide +kernel) rfl
theorem tw_207 : Cond.methodLink "java/lang/Throwable" 1 ⟨"java/lang/Object", "<init>", "()V"⟩ ∈ wsG := wsG_t 207 (by decide +kernel) rfl
theorem tw_208 : Cond.fieldLink "java/lang/Throwable" 13 "java/lang/Throwable" "UNASSIGNED_STACK" "[Ljava/lang/StackTraceElement;" ∈ wsG := wsG_t 208 (by decide +kernel) rfl
theorem tw_210 : Cond.fieldLink "java/lang/Throwable" 20 "java/lang/Throwable" "SUPPRESSED_SENTINEL" "Ljava/util/List;" ∈ wsG := wsG_t 210 (by decide +kernel) rfl
theorem tw_212 : Cond.methodLink "java/lang/Throwable" 27 ⟨"java/lang/Throwable", "fillInStackTrace", "()Ljava/lang/Throwable;"⟩ ∈ wsG := wsG_t 212 (by decide +kernel) rfl
theorem tw_213 : Cond.instanceMethod ⟨"java/lang/Throwable", "fillInStackTrace", "()Ljava/lang/Throwable;"⟩ ∈ wsG := wsG_t 213 (by decide +kernel) rfl
theorem tw_214 : Cond.sameMethod "java/lang/Throwable" "java/lang/Throwable" "fillInStackTrace" "()Ljava/lang/Throwable;" ∈ wsG := wsG_t 214 (by decide +kernel) rfl
theorem tw_215 : Cond.selects "java/lang/IllegalArgumentException" ⟨"java/lang/Throwable", "fillInStackTrace", "()Ljava/lang/Throwable;"⟩ ⟨"java/lang/Throwable", "fillInStackTrace", "()Ljava/lang/Throwable;"⟩ ∈ wsG := wsG_t 215 (by decide +kernel) rfl
theorem tw_216 : Cond.codeSync ⟨"java/lang/Throwable", "fillInStackTrace", "()Ljava/lang/Throwable;"⟩ prog_22_method_18_code 1 (some (.object "java/lang/Throwable")) ∈ wsG := wsG_t 216 (by decide +kernel) rfl
theorem tw_217 : Cond.methodLink "java/lang/Throwable" 202 ⟨"java/lang/Throwable", "fillInStackTrace", "(I)Ljava/lang/Throwable;"⟩ ∈ wsG := wsG_t 217 (by decide +kernel) rfl
theorem tw_219 : Cond.instanceMethod ⟨"java/lang/Throwable", "fillInStackTrace", "(I)Ljava/lang/Throwable;"⟩ ∈ wsG := wsG_t 219 (by decide +kernel) rfl
theorem tw_220 : Cond.instantiable "java/lang/Throwable" 6 ∈ wsG := wsG_t 220 (by decide +kernel) rfl
theorem tw_221 : Cond.native ⟨"java/lang/Throwable", "fillInStackTrace", "(I)Ljava/lang/Throwable;"⟩ ∈ wsG := wsG_t 221 (by decide +kernel) rfl
theorem tw_223 : Cond.methodLink "ColumnForms" 58 ⟨"java/lang/IllegalStateException", "<init>", "(Ljava/lang/String;)V"⟩ ∈ wsG := wsG_t 223 (by decide +kernel) rfl
theorem tw_224 : Cond.instanceMethod ⟨"java/lang/IllegalStateException", "<init>", "(Ljava/lang/String;)V"⟩ ∈ wsG := wsG_t 224 (by decide +kernel) rfl
theorem tw_225 : Cond.code ⟨"java/lang/IllegalStateException", "<init>", "(Ljava/lang/String;)V"⟩ prog_15_method_2_code 2 none ∈ wsG := wsG_t 225 (by decide +kernel) rfl
theorem tw_226 : Cond.methodLink "java/lang/IllegalStateException" 7 ⟨"java/lang/RuntimeException", "<init>", "(Ljava/lang/String;)V"⟩ ∈ wsG := wsG_t 226 (by decide +kernel) rfl
theorem tw_227 : Cond.instanceMethod ⟨"java/lang/RuntimeException", "<init>", "(Ljava/lang/String;)V"⟩ ∈ wsG := wsG_t 227 (by decide +kernel) rfl
theorem tw_228 : Cond.code ⟨"java/lang/RuntimeException", "<init>", "(Ljava/lang/String;)V"⟩ prog_19_method_2_code 2 none ∈ wsG := wsG_t 228 (by decide +kernel) rfl
theorem tw_229 : Cond.methodLink "java/lang/RuntimeException" 7 ⟨"java/lang/Exception", "<init>", "(Ljava/lang/String;)V"⟩ ∈ wsG := wsG_t 229 (by decide +kernel) rfl
theorem tw_230 : Cond.instanceMethod ⟨"java/lang/Exception", "<init>", "(Ljava/lang/String;)V"⟩ ∈ wsG := wsG_t 230 (by decide +kernel) rfl
theorem tw_231 : Cond.code ⟨"java/lang/Exception", "<init>", "(Ljava/lang/String;)V"⟩ prog_13_method_2_code 2 none ∈ wsG := wsG_t 231 (by decide +kernel) rfl
theorem tw_232 : Cond.methodLink "java/lang/Exception" 7 ⟨"java/lang/Throwable", "<init>", "(Ljava/lang/String;)V"⟩ ∈ wsG := wsG_t 232 (by decide +kernel) rfl
theorem tw_233 : Cond.instanceMethod ⟨"java/lang/Throwable", "<init>", "(Ljava/lang/String;)V"⟩ ∈ wsG := wsG_t 233 (by decide +kernel) rfl
theorem tw_234 : Cond.code ⟨"java/lang/Throwable", "<init>", "(Ljava/lang/String;)V"⟩ prog_22_method_2_code 2 none ∈ wsG := wsG_t 234 (by decide +kernel) rfl
theorem tw_235 : Cond.fieldLink "java/lang/Throwable" 198 "java/lang/Throwable" "backtrace" "Ljava/lang/Object;" ∈ wsG := wsG_t 235 (by decide +kernel) rfl
theorem tw_236 : Cond.fieldLink "java/lang/Throwable" 31 "java/lang/Throwable" "detailMessage" "Ljava/lang/String;" ∈ wsG := wsG_t 236 (by decide +kernel) rfl
theorem tw_237 : Cond.fieldLink "java/lang/Throwable" 7 "java/lang/Throwable" "cause" "Ljava/lang/Throwable;" ∈ wsG := wsG_t 237 (by decide +kernel) rfl
theorem tw_238 : Cond.fieldLink "java/lang/Throwable" 17 "java/lang/Throwable" "stackTrace" "[Ljava/lang/StackTraceElement;" ∈ wsG := wsG_t 238 (by decide +kernel) rfl
theorem tw_239 : Cond.fieldLink "java/lang/Throwable" 24 "java/lang/Throwable" "suppressedExceptions" "Ljava/util/List;" ∈ wsG := wsG_t 239 (by decide +kernel) rfl
theorem tw_244 : Cond.lays "java/lang/IllegalStateException" "java/lang/Throwable" "depth" "I" ∈ wsG := wsG_t 244 (by decide +kernel) rfl
theorem tw_247 : Cond.superclass "java/lang/IllegalStateException" "java/lang/RuntimeException" ∈ wsG := wsG_t 247 (by decide +kernel) rfl
theorem tw_248 : Cond.methodLink "ColumnForms" 61 ⟨"ColumnForms$Row", "add", "(J)V"⟩ ∈ wsG := wsG_t 248 (by decide +kernel) rfl
theorem tw_249 : Cond.instanceMethod ⟨"ColumnForms$Row", "add", "(J)V"⟩ ∈ wsG := wsG_t 249 (by decide +kernel) rfl
theorem tw_250 : Cond.selects "ColumnForms$Row" ⟨"ColumnForms$Row", "add", "(J)V"⟩ ⟨"ColumnForms$Row", "add", "(J)V"⟩ ∈ wsG := wsG_t 250 (by decide +kernel) rfl
theorem tw_251 : Cond.code ⟨"ColumnForms$Row", "add", "(J)V"⟩ prog_8_method_6_code 3 none ∈ wsG := wsG_t 251 (by decide +kernel) rfl
theorem tw_252 : Cond.methodLink "ColumnForms$Row" 32 ⟨"ColumnForms$Row", "noteFirst", "(J)V"⟩ ∈ wsG := wsG_t 252 (by decide +kernel) rfl
theorem tw_254 : Cond.instanceMethod ⟨"ColumnForms$Row", "noteFirst", "(J)V"⟩ ∈ wsG := wsG_t 254 (by decide +kernel) rfl
theorem tw_255 : Cond.code ⟨"ColumnForms$Row", "noteFirst", "(J)V"⟩ prog_8_method_7_code 3 none ∈ wsG := wsG_t 255 (by decide +kernel) rfl
theorem tw_256 : Cond.methodLink "ColumnForms$Row" 36 ⟨"ColumnForms$Row", "at", "(I)J"⟩ ∈ wsG := wsG_t 256 (by decide +kernel) rfl
theorem tw_257 : Cond.instanceMethod ⟨"ColumnForms$Row", "at", "(I)J"⟩ ∈ wsG := wsG_t 257 (by decide +kernel) rfl
theorem tw_258 : Cond.selects "ColumnForms$Row" ⟨"ColumnForms$Row", "at", "(I)J"⟩ ⟨"ColumnForms$Row", "at", "(I)J"⟩ ∈ wsG := wsG_t 258 (by decide +kernel) rfl
theorem tw_259 : Cond.code ⟨"ColumnForms$Row", "at", "(I)J"⟩ prog_8_method_2_code 2 (some .long) ∈ wsG := wsG_t 259 (by decide +kernel) rfl
theorem tw_260 : Cond.methodLink "ColumnForms$Row" 39 ⟨"ColumnForms$Row", "noteNext", "(JJ)V"⟩ ∈ wsG := wsG_t 260 (by decide +kernel) rfl
theorem tw_262 : Cond.instanceMethod ⟨"ColumnForms$Row", "noteNext", "(JJ)V"⟩ ∈ wsG := wsG_t 262 (by decide +kernel) rfl
theorem tw_263 : Cond.code ⟨"ColumnForms$Row", "noteNext", "(JJ)V"⟩ prog_8_method_8_code 5 none ∈ wsG := wsG_t 263 (by decide +kernel) rfl
theorem tw_264 : Cond.methodLink "ColumnForms$Row" 64 ⟨"java/lang/Math", "min", "(JJ)J"⟩ ∈ wsG := wsG_t 264 (by decide +kernel) rfl
theorem tw_265 : Cond.static ⟨"java/lang/Math", "min", "(JJ)J"⟩ ∈ wsG := wsG_t 265 (by decide +kernel) rfl
theorem tw_266 : Cond.code ⟨"java/lang/Math", "min", "(JJ)J"⟩ prog_18_method_70_code 4 (some .long) ∈ wsG := wsG_t 266 (by decide +kernel) rfl
theorem tw_267 : Cond.methodLink "ColumnForms$Row" 70 ⟨"java/lang/Math", "max", "(JJ)J"⟩ ∈ wsG := wsG_t 267 (by decide +kernel) rfl
theorem tw_268 : Cond.static ⟨"java/lang/Math", "max", "(JJ)J"⟩ ∈ wsG := wsG_t 268 (by decide +kernel) rfl
theorem tw_269 : Cond.code ⟨"java/lang/Math", "max", "(JJ)J"⟩ prog_18_method_66_code 4 (some .long) ∈ wsG := wsG_t 269 (by decide +kernel) rfl
theorem tw_270 : Cond.methodLink "ColumnForms$Row" 43 ⟨"ColumnForms$Row", "placeOf", "(J)I"⟩ ∈ wsG := wsG_t 270 (by decide +kernel) rfl
theorem tw_271 : Cond.instanceMethod ⟨"ColumnForms$Row", "placeOf", "(J)I"⟩ ∈ wsG := wsG_t 271 (by decide +kernel) rfl
theorem tw_272 : Cond.selects "ColumnForms$Row" ⟨"ColumnForms$Row", "placeOf", "(J)I"⟩ ⟨"ColumnForms$Row", "placeOf", "(J)I"⟩ ∈ wsG := wsG_t 272 (by decide +kernel) rfl
theorem tw_273 : Cond.code ⟨"ColumnForms$Row", "placeOf", "(J)I"⟩ prog_8_method_4_code 5 (some .int) ∈ wsG := wsG_t 273 (by decide +kernel) rfl
theorem tw_274 : Cond.methodLink "ColumnForms$Row" 25 ⟨"ColumnForms$Row", "differentAt", "(I)J"⟩ ∈ wsG := wsG_t 274 (by decide +kernel) rfl
theorem tw_275 : Cond.instanceMethod ⟨"ColumnForms$Row", "differentAt", "(I)J"⟩ ∈ wsG := wsG_t 275 (by decide +kernel) rfl
theorem tw_276 : Cond.selects "ColumnForms$Row" ⟨"ColumnForms$Row", "differentAt", "(I)J"⟩ ⟨"ColumnForms$Row", "differentAt", "(I)J"⟩ ∈ wsG := wsG_t 276 (by decide +kernel) rfl
theorem tw_277 : Cond.code ⟨"ColumnForms$Row", "differentAt", "(I)J"⟩ prog_8_method_3_code 2 (some .long) ∈ wsG := wsG_t 277 (by decide +kernel) rfl
theorem tw_278 : Cond.methodLink "ColumnForms$Row" 47 ⟨"ColumnForms$Row", "noteDifferent", "(JI)V"⟩ ∈ wsG := wsG_t 278 (by decide +kernel) rfl
theorem tw_280 : Cond.instanceMethod ⟨"ColumnForms$Row", "noteDifferent", "(JI)V"⟩ ∈ wsG := wsG_t 280 (by decide +kernel) rfl
theorem tw_281 : Cond.code ⟨"ColumnForms$Row", "noteDifferent", "(JI)V"⟩ prog_8_method_9_code 5 none ∈ wsG := wsG_t 281 (by decide +kernel) rfl
theorem tw_282 : Cond.methodLink "ColumnForms$Row" 73 ⟨"java/lang/System", "arraycopy", "(Ljava/lang/Object;ILjava/lang/Object;II)V"⟩ ∈ wsG := wsG_t 282 (by decide +kernel) rfl
theorem tw_283 : Cond.static ⟨"java/lang/System", "arraycopy", "(Ljava/lang/Object;ILjava/lang/Object;II)V"⟩ ∈ wsG := wsG_t 283 (by decide +kernel) rfl
theorem tw_284 : Cond.native ⟨"java/lang/System", "arraycopy", "(Ljava/lang/Object;ILjava/lang/Object;II)V"⟩ ∈ wsG := wsG_t 284 (by decide +kernel) rfl
theorem tw_285 : Cond.methodLink "ColumnFormsLaw" 62 ⟨"ColumnFormsLaw", "fill", "(LColumnForms;JJI[J)I"⟩ ∈ wsG := wsG_t 285 (by decide +kernel) rfl
theorem tw_286 : Cond.static ⟨"ColumnFormsLaw", "fill", "(LColumnForms;JJI[J)I"⟩ ∈ wsG := wsG_t 286 (by decide +kernel) rfl
theorem tw_287 : Cond.codeWith ⟨"ColumnFormsLaw", "fill", "(LColumnForms;JJI[J)I"⟩ method_4_code 8 (some .int) [(0, 13, 16, 19), (0, 13, 20, 13)] ∈ wsG := wsG_t 287 (by decide +kernel) rfl
theorem tw_288 : Cond.classLink "ColumnFormsLaw" 19 "java/lang/IllegalArgumentException" ∈ wsG := wsG_t 288 (by decide +kernel) rfl
theorem tw_289 : Cond.methodLink "ColumnFormsLaw" 15 ⟨"ColumnForms", "fill", "(JJI)I"⟩ ∈ wsG := wsG_t 289 (by decide +kernel) rfl
theorem tw_290 : Cond.instanceMethod ⟨"ColumnForms", "fill", "(JJI)I"⟩ ∈ wsG := wsG_t 290 (by decide +kernel) rfl
theorem tw_291 : Cond.selects "ColumnForms" ⟨"ColumnForms", "fill", "(JJI)I"⟩ ⟨"ColumnForms", "fill", "(JJI)I"⟩ ∈ wsG := wsG_t 291 (by decide +kernel) rfl
theorem tw_292 : Cond.code ⟨"ColumnForms", "fill", "(JJI)I"⟩ prog_1_method_3_code 9 (some .int) ∈ wsG := wsG_t 292 (by decide +kernel) rfl
theorem tw_293 : Cond.classLink "ColumnForms" 65 "java/lang/IllegalArgumentException" ∈ wsG := wsG_t 293 (by decide +kernel) rfl
theorem tw_294 : Cond.instantiable "java/lang/IllegalArgumentException" 6 ∈ wsG := wsG_t 294 (by decide +kernel) rfl
theorem tw_296 : Cond.selects "java/lang/IllegalArgumentException" ⟨"java/lang/Throwable", "fillInStackTrace", "(I)Ljava/lang/Throwable;"⟩ ⟨"java/lang/Throwable", "fillInStackTrace", "(I)Ljava/lang/Throwable;"⟩ ∈ wsG := wsG_t 296 (by decide +kernel) rfl
theorem tw_297 : Cond.lays "java/lang/IllegalArgumentException" "java/lang/Throwable" "cause" "Ljava/lang/Throwable;" ∈ wsG := wsG_t 297 (by decide +kernel) rfl
theorem tw_298 : Cond.lays "java/lang/IllegalArgumentException" "java/lang/Throwable" "stackTrace" "[Ljava/lang/StackTraceElement;" ∈ wsG := wsG_t 298 (by decide +kernel) rfl
theorem tw_299 : Cond.lays "java/lang/IllegalArgumentException" "java/lang/Throwable" "suppressedExceptions" "Ljava/util/List;" ∈ wsG := wsG_t 299 (by decide +kernel) rfl
theorem tw_300 : Cond.lays "java/lang/IllegalArgumentException" "java/lang/Throwable" "detailMessage" "Ljava/lang/String;" ∈ wsG := wsG_t 300 (by decide +kernel) rfl
theorem tw_301 : Cond.lays "java/lang/IllegalArgumentException" "java/lang/Throwable" "backtrace" "Ljava/lang/Object;" ∈ wsG := wsG_t 301 (by decide +kernel) rfl
theorem tw_303 : Cond.methodLink "ColumnForms" 69 ⟨"java/lang/IllegalArgumentException", "<init>", "(Ljava/lang/String;)V"⟩ ∈ wsG := wsG_t 303 (by decide +kernel) rfl
theorem tw_304 : Cond.instanceMethod ⟨"java/lang/IllegalArgumentException", "<init>", "(Ljava/lang/String;)V"⟩ ∈ wsG := wsG_t 304 (by decide +kernel) rfl
theorem tw_305 : Cond.code ⟨"java/lang/IllegalArgumentException", "<init>", "(Ljava/lang/String;)V"⟩ prog_14_method_2_code 2 none ∈ wsG := wsG_t 305 (by decide +kernel) rfl
theorem tw_306 : Cond.methodLink "java/lang/IllegalArgumentException" 7 ⟨"java/lang/RuntimeException", "<init>", "(Ljava/lang/String;)V"⟩ ∈ wsG := wsG_t 306 (by decide +kernel) rfl
theorem tw_307 : Cond.lays "java/lang/IllegalArgumentException" "java/lang/Throwable" "depth" "I" ∈ wsG := wsG_t 307 (by decide +kernel) rfl
theorem tw_308 : Cond.superclass "java/lang/IllegalArgumentException" "java/lang/RuntimeException" ∈ wsG := wsG_t 308 (by decide +kernel) rfl
theorem tw_310 : Cond.methodLink "ColumnFormsLaw" 70 ⟨"ColumnFormsLaw", "weight", "(LColumnForms;I[J)I"⟩ ∈ wsG := wsG_t 310 (by decide +kernel) rfl
theorem tw_311 : Cond.static ⟨"ColumnFormsLaw", "weight", "(LColumnForms;I[J)I"⟩ ∈ wsG := wsG_t 311 (by decide +kernel) rfl
theorem tw_312 : Cond.codeWith ⟨"ColumnFormsLaw", "weight", "(LColumnForms;I[J)I"⟩ method_5_code 4 (some .int) [(0, 9, 12, 19), (0, 9, 15, 13)] ∈ wsG := wsG_t 312 (by decide +kernel) rfl
theorem tw_313 : Cond.methodLink "ColumnFormsLaw" 21 ⟨"ColumnForms", "weight", "(I)I"⟩ ∈ wsG := wsG_t 313 (by decide +kernel) rfl
theorem tw_314 : Cond.instanceMethod ⟨"ColumnForms", "weight", "(I)I"⟩ ∈ wsG := wsG_t 314 (by decide +kernel) rfl
theorem tw_315 : Cond.selects "ColumnForms" ⟨"ColumnForms", "weight", "(I)I"⟩ ⟨"ColumnForms", "weight", "(I)I"⟩ ∈ wsG := wsG_t 315 (by decide +kernel) rfl
theorem tw_316 : Cond.code ⟨"ColumnForms", "weight", "(I)I"⟩ prog_1_method_5_code 2 (some .int) ∈ wsG := wsG_t 316 (by decide +kernel) rfl
theorem tw_317 : Cond.methodLink "ColumnForms" 75 ⟨"ColumnForms", "refuseUnknownForm", "(I)V"⟩ ∈ wsG := wsG_t 317 (by decide +kernel) rfl
theorem tw_318 : Cond.static ⟨"ColumnForms", "refuseUnknownForm", "(I)V"⟩ ∈ wsG := wsG_t 318 (by decide +kernel) rfl
theorem tw_319 : Cond.code ⟨"ColumnForms", "refuseUnknownForm", "(I)V"⟩ prog_1_method_14_code 1 none ∈ wsG := wsG_t 319 (by decide +kernel) rfl
theorem tw_321 : Cond.methodLink "ColumnForms" 79 ⟨"ColumnForms", "refuseEmptyRow", "()V"⟩ ∈ wsG := wsG_t 321 (by decide +kernel) rfl
theorem tw_323 : Cond.instanceMethod ⟨"ColumnForms", "refuseEmptyRow", "()V"⟩ ∈ wsG := wsG_t 323 (by decide +kernel) rfl
theorem tw_324 : Cond.code ⟨"ColumnForms", "refuseEmptyRow", "()V"⟩ prog_1_method_15_code 1 none ∈ wsG := wsG_t 324 (by decide +kernel) rfl
theorem tw_326 : Cond.methodLink "ColumnForms" 82 ⟨"ColumnForms$Form", "weigh", "(LColumnForms$Row;)I"⟩ ∈ wsG := wsG_t 326 (by decide +kernel) rfl
theorem tw_328 : Cond.sameMethod "ColumnForms$Form" "ColumnForms$Form" "weigh" "(LColumnForms$Row;)I" ∈ wsG := wsG_t 328 (by decide +kernel) rfl
theorem tw_329 : Cond.selects "ColumnForms$Listed" ⟨"ColumnForms$Form", "weigh", "(LColumnForms$Row;)I"⟩ ⟨"ColumnForms$Listed", "weigh", "(LColumnForms$Row;)I"⟩ ∈ wsG := wsG_t 329 (by decide +kernel) rfl
theorem tw_330 : Cond.instanceMethod ⟨"ColumnForms$Listed", "weigh", "(LColumnForms$Row;)I"⟩ ∈ wsG := wsG_t 330 (by decide +kernel) rfl
theorem tw_331 : Cond.code ⟨"ColumnForms$Listed", "weigh", "(LColumnForms$Row;)I"⟩ prog_4_method_2_code 2 (some .int) ∈ wsG := wsG_t 331 (by decide +kernel) rfl
theorem tw_332 : Cond.methodLink "ColumnForms$Listed" 21 ⟨"ColumnForms$Listed", "placesFrom", "(I)I"⟩ ∈ wsG := wsG_t 332 (by decide +kernel) rfl
theorem tw_333 : Cond.static ⟨"ColumnForms$Listed", "placesFrom", "(I)I"⟩ ∈ wsG := wsG_t 333 (by decide +kernel) rfl
theorem tw_334 : Cond.code ⟨"ColumnForms$Listed", "placesFrom", "(I)I"⟩ prog_4_method_9_code 1 (some .int) ∈ wsG := wsG_t 334 (by decide +kernel) rfl
theorem tw_336 : Cond.static ⟨"ColumnForms", "bits", "(J)I"⟩ ∈ wsG := wsG_t 336 (by decide +kernel) rfl
theorem tw_337 : Cond.code ⟨"ColumnForms", "bits", "(J)I"⟩ prog_1_method_19_code 2 (some .int) ∈ wsG := wsG_t 337 (by decide +kernel) rfl
theorem tw_338 : Cond.methodLink "ColumnForms" 141 ⟨"java/lang/Long", "numberOfLeadingZeros", "(J)I"⟩ ∈ wsG := wsG_t 338 (by decide +kernel) rfl
theorem tw_339 : Cond.static ⟨"java/lang/Long", "numberOfLeadingZeros", "(J)I"⟩ ∈ wsG := wsG_t 339 (by decide +kernel) rfl
theorem tw_340 : Cond.code ⟨"java/lang/Long", "numberOfLeadingZeros", "(J)I"⟩ prog_17_method_48_code 3 (some .int) ∈ wsG := wsG_t 340 (by decide +kernel) rfl
theorem tw_341 : Cond.methodLink "java/lang/Long" 308 ⟨"java/lang/Integer", "numberOfLeadingZeros", "(I)I"⟩ ∈ wsG := wsG_t 341 (by decide +kernel) rfl
theorem tw_342 : Cond.static ⟨"java/lang/Integer", "numberOfLeadingZeros", "(I)I"⟩ ∈ wsG := wsG_t 342 (by decide +kernel) rfl
theorem tw_343 : Cond.code ⟨"java/lang/Integer", "numberOfLeadingZeros", "(I)I"⟩ prog_16_method_47_code 2 (some .int) ∈ wsG := wsG_t 343 (by decide +kernel) rfl
theorem tw_344 : Cond.constant "java/lang/Integer" 264 65536 ∈ wsG := wsG_t 344 (by decide +kernel) rfl
theorem tw_346 : Cond.selects "ColumnForms$Packed" ⟨"ColumnForms$Form", "weigh", "(LColumnForms$Row;)I"⟩ ⟨"ColumnForms$Packed", "weigh", "(LColumnForms$Row;)I"⟩ ∈ wsG := wsG_t 346 (by decide +kernel) rfl
theorem tw_347 : Cond.instanceMethod ⟨"ColumnForms$Packed", "weigh", "(LColumnForms$Row;)I"⟩ ∈ wsG := wsG_t 347 (by decide +kernel) rfl
theorem tw_348 : Cond.code ⟨"ColumnForms$Packed", "weigh", "(LColumnForms$Row;)I"⟩ prog_5_method_2_code 2 (some .int) ∈ wsG := wsG_t 348 (by decide +kernel) rfl
theorem tw_349 : Cond.methodLink "ColumnForms$Packed" 15 ⟨"ColumnForms$Packed", "widthOf", "(LColumnForms$Row;)I"⟩ ∈ wsG := wsG_t 349 (by decide +kernel) rfl
theorem tw_350 : Cond.static ⟨"ColumnForms$Packed", "widthOf", "(LColumnForms$Row;)I"⟩ ∈ wsG := wsG_t 350 (by decide +kernel) rfl
theorem tw_351 : Cond.code ⟨"ColumnForms$Packed", "widthOf", "(LColumnForms$Row;)I"⟩ prog_5_method_6_code 1 (some .int) ∈ wsG := wsG_t 351 (by decide +kernel) rfl
theorem tw_354 : Cond.selects "ColumnForms$Plain" ⟨"ColumnForms$Form", "weigh", "(LColumnForms$Row;)I"⟩ ⟨"ColumnForms$Plain", "weigh", "(LColumnForms$Row;)I"⟩ ∈ wsG := wsG_t 354 (by decide +kernel) rfl
theorem tw_355 : Cond.instanceMethod ⟨"ColumnForms$Plain", "weigh", "(LColumnForms$Row;)I"⟩ ∈ wsG := wsG_t 355 (by decide +kernel) rfl
theorem tw_356 : Cond.code ⟨"ColumnForms$Plain", "weigh", "(LColumnForms$Row;)I"⟩ prog_6_method_2_code 2 (some .int) ∈ wsG := wsG_t 356 (by decide +kernel) rfl
theorem tw_357 : Cond.selects "ColumnForms$Runs" ⟨"ColumnForms$Form", "weigh", "(LColumnForms$Row;)I"⟩ ⟨"ColumnForms$Runs", "weigh", "(LColumnForms$Row;)I"⟩ ∈ wsG := wsG_t 357 (by decide +kernel) rfl
theorem tw_358 : Cond.instanceMethod ⟨"ColumnForms$Runs", "weigh", "(LColumnForms$Row;)I"⟩ ∈ wsG := wsG_t 358 (by decide +kernel) rfl
theorem tw_359 : Cond.code ⟨"ColumnForms$Runs", "weigh", "(LColumnForms$Row;)I"⟩ prog_9_method_2_code 2 (some .int) ∈ wsG := wsG_t 359 (by decide +kernel) rfl
theorem tw_361 : Cond.selects "ColumnForms$Steps" ⟨"ColumnForms$Form", "weigh", "(LColumnForms$Row;)I"⟩ ⟨"ColumnForms$Steps", "weigh", "(LColumnForms$Row;)I"⟩ ∈ wsG := wsG_t 361 (by decide +kernel) rfl
theorem tw_362 : Cond.instanceMethod ⟨"ColumnForms$Steps", "weigh", "(LColumnForms$Row;)I"⟩ ∈ wsG := wsG_t 362 (by decide +kernel) rfl
theorem tw_363 : Cond.code ⟨"ColumnForms$Steps", "weigh", "(LColumnForms$Row;)I"⟩ prog_10_method_2_code 2 (some .int) ∈ wsG := wsG_t 363 (by decide +kernel) rfl
theorem tw_364 : Cond.methodLink "ColumnForms$Steps" 15 ⟨"ColumnForms$Steps", "widthOf", "(LColumnForms$Row;)I"⟩ ∈ wsG := wsG_t 364 (by decide +kernel) rfl
theorem tw_365 : Cond.static ⟨"ColumnForms$Steps", "widthOf", "(LColumnForms$Row;)I"⟩ ∈ wsG := wsG_t 365 (by decide +kernel) rfl
theorem tw_366 : Cond.code ⟨"ColumnForms$Steps", "widthOf", "(LColumnForms$Row;)I"⟩ prog_10_method_7_code 1 (some .int) ∈ wsG := wsG_t 366 (by decide +kernel) rfl
theorem tw_369 : Cond.methodLink "ColumnFormsLaw" 74 ⟨"ColumnFormsLaw", "write", "(LColumnForms;[J)I"⟩ ∈ wsG := wsG_t 369 (by decide +kernel) rfl
theorem tw_370 : Cond.static ⟨"ColumnFormsLaw", "write", "(LColumnForms;[J)I"⟩ ∈ wsG := wsG_t 370 (by decide +kernel) rfl
theorem tw_371 : Cond.codeWith ⟨"ColumnFormsLaw", "write", "(LColumnForms;[J)I"⟩ method_6_code 3 (some .int) [(0, 8, 11, 13)] ∈ wsG := wsG_t 371 (by decide +kernel) rfl
theorem tw_372 : Cond.methodLink "ColumnFormsLaw" 25 ⟨"ColumnForms", "write", "()I"⟩ ∈ wsG := wsG_t 372 (by decide +kernel) rfl
theorem tw_373 : Cond.instanceMethod ⟨"ColumnForms", "write", "()I"⟩ ∈ wsG := wsG_t 373 (by decide +kernel) rfl
theorem tw_374 : Cond.selects "ColumnForms" ⟨"ColumnForms", "write", "()I"⟩ ⟨"ColumnForms", "write", "()I"⟩ ∈ wsG := wsG_t 374 (by decide +kernel) rfl
theorem tw_375 : Cond.code ⟨"ColumnForms", "write", "()I"⟩ prog_1_method_6_code 1 (some .int) ∈ wsG := wsG_t 375 (by decide +kernel) rfl
theorem tw_376 : Cond.methodLink "ColumnForms" 86 ⟨"ColumnForms", "lightestForm", "()I"⟩ ∈ wsG := wsG_t 376 (by decide +kernel) rfl
theorem tw_378 : Cond.instanceMethod ⟨"ColumnForms", "lightestForm", "()I"⟩ ∈ wsG := wsG_t 378 (by decide +kernel) rfl
theorem tw_379 : Cond.code ⟨"ColumnForms", "lightestForm", "()I"⟩ prog_1_method_17_code 5 (some .int) ∈ wsG := wsG_t 379 (by decide +kernel) rfl
theorem tw_380 : Cond.methodLink "ColumnForms" 90 ⟨"ColumnForms", "writeRow", "(I)I"⟩ ∈ wsG := wsG_t 380 (by decide +kernel) rfl
theorem tw_382 : Cond.instanceMethod ⟨"ColumnForms", "writeRow", "(I)I"⟩ ∈ wsG := wsG_t 382 (by decide +kernel) rfl
theorem tw_383 : Cond.code ⟨"ColumnForms", "writeRow", "(I)I"⟩ prog_1_method_18_code 2 (some .int) ∈ wsG := wsG_t 383 (by decide +kernel) rfl
theorem tw_384 : Cond.methodLink "ColumnForms" 134 ⟨"ColumnForms$Bytes", "restart", "()V"⟩ ∈ wsG := wsG_t 384 (by decide +kernel) rfl
theorem tw_385 : Cond.instanceMethod ⟨"ColumnForms$Bytes", "restart", "()V"⟩ ∈ wsG := wsG_t 385 (by decide +kernel) rfl
theorem tw_386 : Cond.selects "ColumnForms$Bytes" ⟨"ColumnForms$Bytes", "restart", "()V"⟩ ⟨"ColumnForms$Bytes", "restart", "()V"⟩ ∈ wsG := wsG_t 386 (by decide +kernel) rfl
theorem tw_387 : Cond.code ⟨"ColumnForms$Bytes", "restart", "()V"⟩ prog_2_method_4_code 1 none ∈ wsG := wsG_t 387 (by decide +kernel) rfl
theorem tw_388 : Cond.methodLink "ColumnForms" 137 ⟨"ColumnForms$Form", "lay", "(LColumnForms$Row;LColumnForms$Bytes;)V"⟩ ∈ wsG := wsG_t 388 (by decide +kernel) rfl
theorem tw_390 : Cond.sameMethod "ColumnForms$Form" "ColumnForms$Form" "lay" "(LColumnForms$Row;LColumnForms$Bytes;)V" ∈ wsG := wsG_t 390 (by decide +kernel) rfl
theorem tw_391 : Cond.selects "ColumnForms$Listed" ⟨"ColumnForms$Form", "lay", "(LColumnForms$Row;LColumnForms$Bytes;)V"⟩ ⟨"ColumnForms$Listed", "lay", "(LColumnForms$Row;LColumnForms$Bytes;)V"⟩ ∈ wsG := wsG_t 391 (by decide +kernel) rfl
theorem tw_392 : Cond.instanceMethod ⟨"ColumnForms$Listed", "lay", "(LColumnForms$Row;LColumnForms$Bytes;)V"⟩ ∈ wsG := wsG_t 392 (by decide +kernel) rfl
theorem tw_393 : Cond.code ⟨"ColumnForms$Listed", "lay", "(LColumnForms$Row;LColumnForms$Bytes;)V"⟩ prog_4_method_3_code 5 none ∈ wsG := wsG_t 393 (by decide +kernel) rfl
theorem tw_394 : Cond.methodLink "ColumnForms$Listed" 35 ⟨"ColumnForms$Bytes", "append", "(JI)V"⟩ ∈ wsG := wsG_t 394 (by decide +kernel) rfl
theorem tw_395 : Cond.instanceMethod ⟨"ColumnForms$Bytes", "append", "(JI)V"⟩ ∈ wsG := wsG_t 395 (by decide +kernel) rfl
theorem tw_396 : Cond.selects "ColumnForms$Bytes" ⟨"ColumnForms$Bytes", "append", "(JI)V"⟩ ⟨"ColumnForms$Bytes", "append", "(JI)V"⟩ ∈ wsG := wsG_t 396 (by decide +kernel) rfl
theorem tw_397 : Cond.code ⟨"ColumnForms$Bytes", "append", "(JI)V"⟩ prog_2_method_5_code 9 none ∈ wsG := wsG_t 397 (by decide +kernel) rfl
theorem tw_398 : Cond.methodLink "ColumnForms$Bytes" 23 ⟨"java/lang/Math", "min", "(II)I"⟩ ∈ wsG := wsG_t 398 (by decide +kernel) rfl
theorem tw_399 : Cond.static ⟨"java/lang/Math", "min", "(II)I"⟩ ∈ wsG := wsG_t 399 (by decide +kernel) rfl
theorem tw_400 : Cond.code ⟨"java/lang/Math", "min", "(II)I"⟩ prog_18_method_69_code 2 (some .int) ∈ wsG := wsG_t 400 (by decide +kernel) rfl
theorem tw_401 : Cond.methodLink "ColumnForms$Bytes" 29 ⟨"ColumnForms$Bytes", "addToLast", "(II)V"⟩ ∈ wsG := wsG_t 401 (by decide +kernel) rfl
theorem tw_403 : Cond.instanceMethod ⟨"ColumnForms$Bytes", "addToLast", "(II)V"⟩ ∈ wsG := wsG_t 403 (by decide +kernel) rfl
theorem tw_404 : Cond.code ⟨"ColumnForms$Bytes", "addToLast", "(II)V"⟩ prog_2_method_6_code 5 none ∈ wsG := wsG_t 404 (by decide +kernel) rfl
theorem tw_405 : Cond.methodLink "ColumnForms$Listed" 41 ⟨"ColumnForms$Row", "differentAt", "(I)J"⟩ ∈ wsG := wsG_t 405 (by decide +kernel) rfl
theorem tw_406 : Cond.methodLink "ColumnForms$Listed" 45 ⟨"ColumnForms$Row", "at", "(I)J"⟩ ∈ wsG := wsG_t 406 (by decide +kernel) rfl
theorem tw_407 : Cond.methodLink "ColumnForms$Listed" 48 ⟨"ColumnForms$Row", "placeOf", "(J)I"⟩ ∈ wsG := wsG_t 407 (by decide +kernel) rfl
theorem tw_408 : Cond.selects "ColumnForms$Packed" ⟨"ColumnForms$Form", "lay", "(LColumnForms$Row;LColumnForms$Bytes;)V"⟩ ⟨"ColumnForms$Packed", "lay", "(LColumnForms$Row;LColumnForms$Bytes;)V"⟩ ∈ wsG := wsG_t 408 (by decide +kernel) rfl
theorem tw_409 : Cond.instanceMethod ⟨"ColumnForms$Packed", "lay", "(LColumnForms$Row;LColumnForms$Bytes;)V"⟩ ∈ wsG := wsG_t 409 (by decide +kernel) rfl
theorem tw_410 : Cond.code ⟨"ColumnForms$Packed", "lay", "(LColumnForms$Row;LColumnForms$Bytes;)V"⟩ prog_5_method_3_code 5 none ∈ wsG := wsG_t 410 (by decide +kernel) rfl
theorem tw_411 : Cond.methodLink "ColumnForms$Packed" 29 ⟨"ColumnForms$Bytes", "append", "(JI)V"⟩ ∈ wsG := wsG_t 411 (by decide +kernel) rfl
theorem tw_412 : Cond.methodLink "ColumnForms$Packed" 35 ⟨"ColumnForms$Row", "at", "(I)J"⟩ ∈ wsG := wsG_t 412 (by decide +kernel) rfl
theorem tw_413 : Cond.selects "ColumnForms$Plain" ⟨"ColumnForms$Form", "lay", "(LColumnForms$Row;LColumnForms$Bytes;)V"⟩ ⟨"ColumnForms$Plain", "lay", "(LColumnForms$Row;LColumnForms$Bytes;)V"⟩ ∈ wsG := wsG_t 413 (by decide +kernel) rfl
theorem tw_414 : Cond.instanceMethod ⟨"ColumnForms$Plain", "lay", "(LColumnForms$Row;LColumnForms$Bytes;)V"⟩ ∈ wsG := wsG_t 414 (by decide +kernel) rfl
theorem tw_415 : Cond.code ⟨"ColumnForms$Plain", "lay", "(LColumnForms$Row;LColumnForms$Bytes;)V"⟩ prog_6_method_3_code 4 none ∈ wsG := wsG_t 415 (by decide +kernel) rfl
theorem tw_416 : Cond.methodLink "ColumnForms$Plain" 13 ⟨"ColumnForms$Row", "at", "(I)J"⟩ ∈ wsG := wsG_t 416 (by decide +kernel) rfl
theorem tw_417 : Cond.methodLink "ColumnForms$Plain" 17 ⟨"ColumnForms$Bytes", "append", "(JI)V"⟩ ∈ wsG := wsG_t 417 (by decide +kernel) rfl
theorem tw_418 : Cond.selects "ColumnForms$Runs" ⟨"ColumnForms$Form", "lay", "(LColumnForms$Row;LColumnForms$Bytes;)V"⟩ ⟨"ColumnForms$Runs", "lay", "(LColumnForms$Row;LColumnForms$Bytes;)V"⟩ ∈ wsG := wsG_t 418 (by decide +kernel) rfl
theorem tw_419 : Cond.instanceMethod ⟨"ColumnForms$Runs", "lay", "(LColumnForms$Row;LColumnForms$Bytes;)V"⟩ ∈ wsG := wsG_t 419 (by decide +kernel) rfl
theorem tw_420 : Cond.code ⟨"ColumnForms$Runs", "lay", "(LColumnForms$Row;LColumnForms$Bytes;)V"⟩ prog_9_method_3_code 5 none ∈ wsG := wsG_t 420 (by decide +kernel) rfl
theorem tw_421 : Cond.methodLink "ColumnForms$Runs" 21 ⟨"ColumnForms$Bytes", "append", "(JI)V"⟩ ∈ wsG := wsG_t 421 (by decide +kernel) rfl
theorem tw_422 : Cond.methodLink "ColumnForms$Runs" 30 ⟨"ColumnForms$Row", "at", "(I)J"⟩ ∈ wsG := wsG_t 422 (by decide +kernel) rfl
theorem tw_423 : Cond.selects "ColumnForms$Steps" ⟨"ColumnForms$Form", "lay", "(LColumnForms$Row;LColumnForms$Bytes;)V"⟩ ⟨"ColumnForms$Steps", "lay", "(LColumnForms$Row;LColumnForms$Bytes;)V"⟩ ∈ wsG := wsG_t 423 (by decide +kernel) rfl
theorem tw_424 : Cond.instanceMethod ⟨"ColumnForms$Steps", "lay", "(LColumnForms$Row;LColumnForms$Bytes;)V"⟩ ∈ wsG := wsG_t 424 (by decide +kernel) rfl
theorem tw_425 : Cond.code ⟨"ColumnForms$Steps", "lay", "(LColumnForms$Row;LColumnForms$Bytes;)V"⟩ prog_10_method_3_code 5 none ∈ wsG := wsG_t 425 (by decide +kernel) rfl
theorem tw_426 : Cond.methodLink "ColumnForms$Steps" 25 ⟨"ColumnForms$Row", "at", "(I)J"⟩ ∈ wsG := wsG_t 426 (by decide +kernel) rfl
theorem tw_427 : Cond.methodLink "ColumnForms$Steps" 29 ⟨"ColumnForms$Bytes", "append", "(JI)V"⟩ ∈ wsG := wsG_t 427 (by decide +kernel) rfl
theorem tw_428 : Cond.methodLink "ColumnFormsLaw" 78 ⟨"ColumnFormsLaw", "writeAs", "(LColumnForms;I[J)I"⟩ ∈ wsG := wsG_t 428 (by decide +kernel) rfl
theorem tw_429 : Cond.static ⟨"ColumnFormsLaw", "writeAs", "(LColumnForms;I[J)I"⟩ ∈ wsG := wsG_t 429 (by decide +kernel) rfl
theorem tw_430 : Cond.codeWith ⟨"ColumnFormsLaw", "writeAs", "(LColumnForms;I[J)I"⟩ method_7_code 4 (some .int) [(0, 9, 12, 19), (0, 9, 15, 13)] ∈ wsG := wsG_t 430 (by decide +kernel) rfl
theorem tw_431 : Cond.methodLink "ColumnFormsLaw" 29 ⟨"ColumnForms", "writeAs", "(I)I"⟩ ∈ wsG := wsG_t 431 (by decide +kernel) rfl
theorem tw_432 : Cond.instanceMethod ⟨"ColumnForms", "writeAs", "(I)I"⟩ ∈ wsG := wsG_t 432 (by decide +kernel) rfl
theorem tw_433 : Cond.selects "ColumnForms" ⟨"ColumnForms", "writeAs", "(I)I"⟩ ⟨"ColumnForms", "writeAs", "(I)I"⟩ ∈ wsG := wsG_t 433 (by decide +kernel) rfl
theorem tw_434 : Cond.code ⟨"ColumnForms", "writeAs", "(I)I"⟩ prog_1_method_7_code 2 (some .int) ∈ wsG := wsG_t 434 (by decide +kernel) rfl
theorem tw_435 : Cond.methodLink "ColumnFormsLaw" 89 ⟨"ColumnFormsLaw", "byteAt", "(LColumnForms;I[J)I"⟩ ∈ wsG := wsG_t 435 (by decide +kernel) rfl
theorem tw_436 : Cond.static ⟨"ColumnFormsLaw", "byteAt", "(LColumnForms;I[J)I"⟩ ∈ wsG := wsG_t 436 (by decide +kernel) rfl
theorem tw_437 : Cond.codeWith ⟨"ColumnFormsLaw", "byteAt", "(LColumnForms;I[J)I"⟩ method_8_code 4 (some .int) [(0, 9, 12, 19)] ∈ wsG := wsG_t 437 (by decide +kernel) rfl
theorem tw_438 : Cond.methodLink "ColumnFormsLaw" 32 ⟨"ColumnForms", "byteAt", "(I)I"⟩ ∈ wsG := wsG_t 438 (by decide +kernel) rfl
theorem tw_439 : Cond.instanceMethod ⟨"ColumnForms", "byteAt", "(I)I"⟩ ∈ wsG := wsG_t 439 (by decide +kernel) rfl
theorem tw_440 : Cond.selects "ColumnForms" ⟨"ColumnForms", "byteAt", "(I)I"⟩ ⟨"ColumnForms", "byteAt", "(I)I"⟩ ∈ wsG := wsG_t 440 (by decide +kernel) rfl
theorem tw_441 : Cond.code ⟨"ColumnForms", "byteAt", "(I)I"⟩ prog_1_method_10_code 2 (some .int) ∈ wsG := wsG_t 441 (by decide +kernel) rfl
theorem tw_443 : Cond.methodLink "ColumnForms" 98 ⟨"ColumnForms$Bytes", "octet", "(I)I"⟩ ∈ wsG := wsG_t 443 (by decide +kernel) rfl
theorem tw_444 : Cond.instanceMethod ⟨"ColumnForms$Bytes", "octet", "(I)I"⟩ ∈ wsG := wsG_t 444 (by decide +kernel) rfl
theorem tw_445 : Cond.selects "ColumnForms$Bytes" ⟨"ColumnForms$Bytes", "octet", "(I)I"⟩ ⟨"ColumnForms$Bytes", "octet", "(I)I"⟩ ∈ wsG := wsG_t 445 (by decide +kernel) rfl
theorem tw_446 : Cond.code ⟨"ColumnForms$Bytes", "octet", "(I)I"⟩ prog_2_method_3_code 2 (some .int) ∈ wsG := wsG_t 446 (by decide +kernel) rfl
theorem tw_447 : Cond.methodLink "ColumnFormsLaw" 92 ⟨"ColumnFormsLaw", "cell", "(LColumnForms;I[J)I"⟩ ∈ wsG := wsG_t 447 (by decide +kernel) rfl
theorem tw_448 : Cond.static ⟨"ColumnFormsLaw", "cell", "(LColumnForms;I[J)I"⟩ ∈ wsG := wsG_t 448 (by decide +kernel) rfl
theorem tw_449 : Cond.codeWith ⟨"ColumnFormsLaw", "cell", "(LColumnForms;I[J)I"⟩ method_9_code 4 (some .int) [(0, 8, 11, 19)] ∈ wsG := wsG_t 449 (by decide +kernel) rfl
theorem tw_450 : Cond.methodLink "ColumnFormsLaw" 35 ⟨"ColumnForms", "cell", "(I)J"⟩ ∈ wsG := wsG_t 450 (by decide +kernel) rfl
theorem tw_451 : Cond.instanceMethod ⟨"ColumnForms", "cell", "(I)J"⟩ ∈ wsG := wsG_t 451 (by decide +kernel) rfl
theorem tw_452 : Cond.selects "ColumnForms" ⟨"ColumnForms", "cell", "(I)J"⟩ ⟨"ColumnForms", "cell", "(I)J"⟩ ∈ wsG := wsG_t 452 (by decide +kernel) rfl
theorem tw_453 : Cond.code ⟨"ColumnForms", "cell", "(I)J"⟩ prog_1_method_11_code 2 (some .long) ∈ wsG := wsG_t 453 (by decide +kernel) rfl
theorem tw_455 : Cond.methodLink "ColumnForms" 103 ⟨"ColumnForms$Form", "read", "(LColumnForms$Bytes;I)J"⟩ ∈ wsG := wsG_t 455 (by decide +kernel) rfl
theorem tw_457 : Cond.sameMethod "ColumnForms$Form" "ColumnForms$Form" "read" "(LColumnForms$Bytes;I)J" ∈ wsG := wsG_t 457 (by decide +kernel) rfl
theorem tw_458 : Cond.selects "ColumnForms$Listed" ⟨"ColumnForms$Form", "read", "(LColumnForms$Bytes;I)J"⟩ ⟨"ColumnForms$Listed", "read", "(LColumnForms$Bytes;I)J"⟩ ∈ wsG := wsG_t 458 (by decide +kernel) rfl
theorem tw_459 : Cond.instanceMethod ⟨"ColumnForms$Listed", "read", "(LColumnForms$Bytes;I)J"⟩ ∈ wsG := wsG_t 459 (by decide +kernel) rfl
theorem tw_460 : Cond.code ⟨"ColumnForms$Listed", "read", "(LColumnForms$Bytes;I)J"⟩ prog_4_method_4_code 5 (some .long) ∈ wsG := wsG_t 460 (by decide +kernel) rfl
theorem tw_461 : Cond.methodLink "ColumnForms$Listed" 51 ⟨"ColumnForms$Listed", "differentIn", "(LColumnForms$Bytes;)I"⟩ ∈ wsG := wsG_t 461 (by decide +kernel) rfl
theorem tw_462 : Cond.static ⟨"ColumnForms$Listed", "differentIn", "(LColumnForms$Bytes;)I"⟩ ∈ wsG := wsG_t 462 (by decide +kernel) rfl
theorem tw_463 : Cond.code ⟨"ColumnForms$Listed", "differentIn", "(LColumnForms$Bytes;)I"⟩ prog_4_method_7_code 1 (some .int) ∈ wsG := wsG_t 463 (by decide +kernel) rfl
theorem tw_464 : Cond.methodLink "ColumnForms$Listed" 55 ⟨"ColumnForms$Bytes", "bitsAt", "(II)J"⟩ ∈ wsG := wsG_t 464 (by decide +kernel) rfl
theorem tw_465 : Cond.instanceMethod ⟨"ColumnForms$Bytes", "bitsAt", "(II)J"⟩ ∈ wsG := wsG_t 465 (by decide +kernel) rfl
theorem tw_466 : Cond.selects "ColumnForms$Bytes" ⟨"ColumnForms$Bytes", "bitsAt", "(II)J"⟩ ⟨"ColumnForms$Bytes", "bitsAt", "(II)J"⟩ ∈ wsG := wsG_t 466 (by decide +kernel) rfl
theorem tw_467 : Cond.code ⟨"ColumnForms$Bytes", "bitsAt", "(II)J"⟩ prog_2_method_7_code 11 (some .long) ∈ wsG := wsG_t 467 (by decide +kernel) rfl
theorem tw_468 : Cond.methodLink "ColumnForms$Bytes" 33 ⟨"ColumnForms$Bytes", "octet", "(I)I"⟩ ∈ wsG := wsG_t 468 (by decide +kernel) rfl
theorem tw_469 : Cond.methodLink "ColumnForms$Listed" 59 ⟨"ColumnForms$Listed", "listedAt", "(LColumnForms$Bytes;I)J"⟩ ∈ wsG := wsG_t 469 (by decide +kernel) rfl
theorem tw_470 : Cond.static ⟨"ColumnForms$Listed", "listedAt", "(LColumnForms$Bytes;I)J"⟩ ∈ wsG := wsG_t 470 (by decide +kernel) rfl
theorem tw_471 : Cond.code ⟨"ColumnForms$Listed", "listedAt", "(LColumnForms$Bytes;I)J"⟩ prog_4_method_8_code 2 (some .long) ∈ wsG := wsG_t 471 (by decide +kernel) rfl
theorem tw_472 : Cond.selects "ColumnForms$Packed" ⟨"ColumnForms$Form", "read", "(LColumnForms$Bytes;I)J"⟩ ⟨"ColumnForms$Packed", "read", "(LColumnForms$Bytes;I)J"⟩ ∈ wsG := wsG_t 472 (by decide +kernel) rfl
theorem tw_473 : Cond.instanceMethod ⟨"ColumnForms$Packed", "read", "(LColumnForms$Bytes;I)J"⟩ ∈ wsG := wsG_t 473 (by decide +kernel) rfl
theorem tw_474 : Cond.code ⟨"ColumnForms$Packed", "read", "(LColumnForms$Bytes;I)J"⟩ prog_5_method_4_code 4 (some .long) ∈ wsG := wsG_t 474 (by decide +kernel) rfl
theorem tw_475 : Cond.methodLink "ColumnForms$Packed" 39 ⟨"ColumnForms$Bytes", "bitsAt", "(II)J"⟩ ∈ wsG := wsG_t 475 (by decide +kernel) rfl
theorem tw_476 : Cond.selects "ColumnForms$Plain" ⟨"ColumnForms$Form", "read", "(LColumnForms$Bytes;I)J"⟩ ⟨"ColumnForms$Plain", "read", "(LColumnForms$Bytes;I)J"⟩ ∈ wsG := wsG_t 476 (by decide +kernel) rfl
theorem tw_477 : Cond.instanceMethod ⟨"ColumnForms$Plain", "read", "(LColumnForms$Bytes;I)J"⟩ ∈ wsG := wsG_t 477 (by decide +kernel) rfl
theorem tw_478 : Cond.code ⟨"ColumnForms$Plain", "read", "(LColumnForms$Bytes;I)J"⟩ prog_6_method_4_code 3 (some .long) ∈ wsG := wsG_t 478 (by decide +kernel) rfl
theorem tw_479 : Cond.methodLink "ColumnForms$Plain" 23 ⟨"ColumnForms$Bytes", "bitsAt", "(II)J"⟩ ∈ wsG := wsG_t 479 (by decide +kernel) rfl
theorem tw_480 : Cond.selects "ColumnForms$Runs" ⟨"ColumnForms$Form", "read", "(LColumnForms$Bytes;I)J"⟩ ⟨"ColumnForms$Runs", "read", "(LColumnForms$Bytes;I)J"⟩ ∈ wsG := wsG_t 480 (by decide +kernel) rfl
theorem tw_481 : Cond.instanceMethod ⟨"ColumnForms$Runs", "read", "(LColumnForms$Bytes;I)J"⟩ ∈ wsG := wsG_t 481 (by decide +kernel) rfl
theorem tw_482 : Cond.code ⟨"ColumnForms$Runs", "read", "(LColumnForms$Bytes;I)J"⟩ prog_9_method_4_code 6 (some .long) ∈ wsG := wsG_t 482 (by decide +kernel) rfl
theorem tw_483 : Cond.methodLink "ColumnForms$Runs" 34 ⟨"ColumnForms$Runs", "runsIn", "(LColumnForms$Bytes;)I"⟩ ∈ wsG := wsG_t 483 (by decide +kernel) rfl
theorem tw_484 : Cond.static ⟨"ColumnForms$Runs", "runsIn", "(LColumnForms$Bytes;)I"⟩ ∈ wsG := wsG_t 484 (by decide +kernel) rfl
theorem tw_485 : Cond.code ⟨"ColumnForms$Runs", "runsIn", "(LColumnForms$Bytes;)I"⟩ prog_9_method_6_code 1 (some .int) ∈ wsG := wsG_t 485 (by decide +kernel) rfl
theorem tw_486 : Cond.methodLink "ColumnForms$Runs" 51 ⟨"ColumnForms$Bytes", "bitsAt", "(II)J"⟩ ∈ wsG := wsG_t 486 (by decide +kernel) rfl
theorem tw_487 : Cond.methodLink "ColumnForms$Runs" 38 ⟨"ColumnForms$Runs", "lengthOf", "(LColumnForms$Bytes;I)I"⟩ ∈ wsG := wsG_t 487 (by decide +kernel) rfl
theorem tw_488 : Cond.static ⟨"ColumnForms$Runs", "lengthOf", "(LColumnForms$Bytes;I)I"⟩ ∈ wsG := wsG_t 488 (by decide +kernel) rfl
theorem tw_489 : Cond.code ⟨"ColumnForms$Runs", "lengthOf", "(LColumnForms$Bytes;I)I"⟩ prog_9_method_8_code 2 (some .int) ∈ wsG := wsG_t 489 (by decide +kernel) rfl
theorem tw_490 : Cond.methodLink "ColumnForms$Runs" 42 ⟨"ColumnForms$Runs", "cellOf", "(LColumnForms$Bytes;I)J"⟩ ∈ wsG := wsG_t 490 (by decide +kernel) rfl
theorem tw_491 : Cond.static ⟨"ColumnForms$Runs", "cellOf", "(LColumnForms$Bytes;I)J"⟩ ∈ wsG := wsG_t 491 (by decide +kernel) rfl
theorem tw_492 : Cond.code ⟨"ColumnForms$Runs", "cellOf", "(LColumnForms$Bytes;I)J"⟩ prog_9_method_7_code 2 (some .long) ∈ wsG := wsG_t 492 (by decide +kernel) rfl
theorem tw_493 : Cond.selects "ColumnForms$Steps" ⟨"ColumnForms$Form", "read", "(LColumnForms$Bytes;I)J"⟩ ⟨"ColumnForms$Steps", "read", "(LColumnForms$Bytes;I)J"⟩ ∈ wsG := wsG_t 493 (by decide +kernel) rfl
theorem tw_494 : Cond.instanceMethod ⟨"ColumnForms$Steps", "read", "(LColumnForms$Bytes;I)J"⟩ ∈ wsG := wsG_t 494 (by decide +kernel) rfl
theorem tw_495 : Cond.code ⟨"ColumnForms$Steps", "read", "(LColumnForms$Bytes;I)J"⟩ prog_10_method_4_code 7 (some .long) ∈ wsG := wsG_t 495 (by decide +kernel) rfl
theorem tw_496 : Cond.methodLink "ColumnForms$Steps" 39 ⟨"ColumnForms$Steps", "widthIn", "(LColumnForms$Bytes;)I"⟩ ∈ wsG := wsG_t 496 (by decide +kernel) rfl
theorem tw_497 : Cond.static ⟨"ColumnForms$Steps", "widthIn", "(LColumnForms$Bytes;)I"⟩ ∈ wsG := wsG_t 497 (by decide +kernel) rfl
theorem tw_498 : Cond.code ⟨"ColumnForms$Steps", "widthIn", "(LColumnForms$Bytes;)I"⟩ prog_10_method_6_code 1 (some .int) ∈ wsG := wsG_t 498 (by decide +kernel) rfl
theorem tw_499 : Cond.methodLink "ColumnForms$Steps" 43 ⟨"ColumnForms$Bytes", "bitsAt", "(II)J"⟩ ∈ wsG := wsG_t 499 (by decide +kernel) rfl
theorem tw_500 : Cond.methodLink "ColumnFormsLaw" 95 ⟨"ColumnFormsLaw", "count", "(LColumnForms;IJ[J)I"⟩ ∈ wsG := wsG_t 500 (by decide +kernel) rfl
theorem tw_501 : Cond.static ⟨"ColumnFormsLaw", "count", "(LColumnForms;IJ[J)I"⟩ ∈ wsG := wsG_t 501 (by decide +kernel) rfl
theorem tw_502 : Cond.codeWith ⟨"ColumnFormsLaw", "count", "(LColumnForms;IJ[J)I"⟩ method_10_code 6 (some .int) [(0, 11, 14, 19), (0, 11, 18, 13)] ∈ wsG := wsG_t 502 (by decide +kernel) rfl
theorem tw_503 : Cond.methodLink "ColumnFormsLaw" 39 ⟨"ColumnForms", "count", "(IJ)I"⟩ ∈ wsG := wsG_t 503 (by decide +kernel) rfl
theorem tw_504 : Cond.instanceMethod ⟨"ColumnForms", "count", "(IJ)I"⟩ ∈ wsG := wsG_t 504 (by decide +kernel) rfl
theorem tw_505 : Cond.selects "ColumnForms" ⟨"ColumnForms", "count", "(IJ)I"⟩ ⟨"ColumnForms", "count", "(IJ)I"⟩ ∈ wsG := wsG_t 505 (by decide +kernel) rfl
theorem tw_506 : Cond.code ⟨"ColumnForms", "count", "(IJ)I"⟩ prog_1_method_12_code 5 (some .int) ∈ wsG := wsG_t 506 (by decide +kernel) rfl
theorem tw_508 : Cond.methodLink "ColumnForms" 109 ⟨"ColumnForms", "refuseNoColumn", "()V"⟩ ∈ wsG := wsG_t 508 (by decide +kernel) rfl
theorem tw_510 : Cond.instanceMethod ⟨"ColumnForms", "refuseNoColumn", "()V"⟩ ∈ wsG := wsG_t 510 (by decide +kernel) rfl
theorem tw_511 : Cond.code ⟨"ColumnForms", "refuseNoColumn", "()V"⟩ prog_1_method_16_code 1 none ∈ wsG := wsG_t 511 (by decide +kernel) rfl
theorem tw_513 : Cond.classLink "ColumnForms" 112 "ColumnForms$Question" ∈ wsG := wsG_t 513 (by decide +kernel) rfl
theorem tw_514 : Cond.instantiable "ColumnForms$Question" 5 ∈ wsG := wsG_t 514 (by decide +kernel) rfl
theorem tw_515 : Cond.methodLink "ColumnForms" 114 ⟨"ColumnForms$Question", "<init>", "(IJJ)V"⟩ ∈ wsG := wsG_t 515 (by decide +kernel) rfl
theorem tw_516 : Cond.instanceMethod ⟨"ColumnForms$Question", "<init>", "(IJJ)V"⟩ ∈ wsG := wsG_t 516 (by decide +kernel) rfl
theorem tw_517 : Cond.code ⟨"ColumnForms$Question", "<init>", "(IJJ)V"⟩ prog_7_method_1_code 6 none ∈ wsG := wsG_t 517 (by decide +kernel) rfl
theorem tw_518 : Cond.methodLink "ColumnForms$Question" 1 ⟨"java/lang/Object", "<init>", "()V"⟩ ∈ wsG := wsG_t 518 (by decide +kernel) rfl
theorem tw_519 : Cond.fieldLink "ColumnForms$Question" 24 "ColumnForms$Question" "hits" "I" ∈ wsG := wsG_t 519 (by decide +kernel) rfl
theorem tw_520 : Cond.fieldLink "ColumnForms" 121 "ColumnForms$Question" "hits" "I" ∈ wsG := wsG_t 520 (by decide +kernel) rfl
theorem tw_521 : Cond.fieldLink "ColumnForms$Question" 27 "ColumnForms$Question" "total" "J" ∈ wsG := wsG_t 521 (by decide +kernel) rfl
theorem tw_522 : Cond.fieldLink "ColumnForms" 124 "ColumnForms$Question" "total" "J" ∈ wsG := wsG_t 522 (by decide +kernel) rfl
theorem tw_523 : Cond.fieldLink "ColumnForms$Question" 7 "ColumnForms$Question" "kind" "I" ∈ wsG := wsG_t 523 (by decide +kernel) rfl
theorem tw_524 : Cond.fieldLink "ColumnForms$Question" 13 "ColumnForms$Question" "low" "J" ∈ wsG := wsG_t 524 (by decide +kernel) rfl
theorem tw_525 : Cond.fieldLink "ColumnForms$Question" 17 "ColumnForms$Question" "high" "J" ∈ wsG := wsG_t 525 (by decide +kernel) rfl
theorem tw_526 : Cond.lays "ColumnForms$Question" "ColumnForms$Question" "hits" "I" ∈ wsG := wsG_t 526 (by decide +kernel) rfl
theorem tw_528 : Cond.lays "ColumnForms$Question" "ColumnForms$Question" "total" "J" ∈ wsG := wsG_t 528 (by decide +kernel) rfl
theorem tw_530 : Cond.laysFinal "ColumnForms$Question" "ColumnForms$Question" "kind" "I" ∈ wsG := wsG_t 530 (by decide +kernel) rfl
theorem tw_532 : Cond.laysFinal "ColumnForms$Question" "ColumnForms$Question" "low" "J" ∈ wsG := wsG_t 532 (by decide +kernel) rfl
theorem tw_534 : Cond.laysFinal "ColumnForms$Question" "ColumnForms$Question" "high" "J" ∈ wsG := wsG_t 534 (by decide +kernel) rfl
theorem tw_536 : Cond.superclass "ColumnForms$Question" "java/lang/Object" ∈ wsG := wsG_t 536 (by decide +kernel) rfl
theorem tw_537 : Cond.methodLink "ColumnForms" 117 ⟨"ColumnForms$Form", "askAll", "(LColumnForms$Bytes;ILColumnForms$Question;)V"⟩ ∈ wsG := wsG_t 537 (by decide +kernel) rfl
theorem tw_539 : Cond.sameMethod "ColumnForms$Form" "ColumnForms$Form" "askAll" "(LColumnForms$Bytes;ILColumnForms$Question;)V" ∈ wsG := wsG_t 539 (by decide +kernel) rfl
theorem tw_540 : Cond.selects "ColumnForms$Listed" ⟨"ColumnForms$Form", "askAll", "(LColumnForms$Bytes;ILColumnForms$Question;)V"⟩ ⟨"ColumnForms$Listed", "askAll", "(LColumnForms$Bytes;ILColumnForms$Question;)V"⟩ ∈ wsG := wsG_t 540 (by decide +kernel) rfl
theorem tw_541 : Cond.instanceMethod ⟨"ColumnForms$Listed", "askAll", "(LColumnForms$Bytes;ILColumnForms$Question;)V"⟩ ∈ wsG := wsG_t 541 (by decide +kernel) rfl
theorem tw_542 : Cond.code ⟨"ColumnForms$Listed", "askAll", "(LColumnForms$Bytes;ILColumnForms$Question;)V"⟩ prog_4_method_5_code 6 none ∈ wsG := wsG_t 542 (by decide +kernel) rfl
theorem tw_543 : Cond.methodLink "ColumnForms$Listed" 63 ⟨"java/lang/Math", "min", "(II)I"⟩ ∈ wsG := wsG_t 543 (by decide +kernel) rfl
theorem tw_544 : Cond.methodLink "ColumnForms$Listed" 69 ⟨"ColumnForms$Listed", "countPlaces", "(LColumnForms$Bytes;II)V"⟩ ∈ wsG := wsG_t 544 (by decide +kernel) rfl
theorem tw_546 : Cond.instanceMethod ⟨"ColumnForms$Listed", "countPlaces", "(LColumnForms$Bytes;II)V"⟩ ∈ wsG := wsG_t 546 (by decide +kernel) rfl
theorem tw_547 : Cond.code ⟨"ColumnForms$Listed", "countPlaces", "(LColumnForms$Bytes;II)V"⟩ prog_4_method_6_code 8 none ∈ wsG := wsG_t 547 (by decide +kernel) rfl
theorem tw_548 : Cond.methodLink "ColumnForms$Listed" 78 ⟨"java/util/Arrays", "fill", "([II)V"⟩ ∈ wsG := wsG_t 548 (by decide +kernel) rfl
theorem tw_549 : Cond.static ⟨"java/util/Arrays", "fill", "([II)V"⟩ ∈ wsG := wsG_t 549 (by decide +kernel) rfl
theorem tw_550 : Cond.code ⟨"java/util/Arrays", "fill", "([II)V"⟩ prog_23_method_103_code 4 none ∈ wsG := wsG_t 550 (by decide +kernel) rfl
theorem tw_551 : Cond.methodLink "ColumnForms$Listed" 73 ⟨"ColumnForms$Question", "ask", "(JI)V"⟩ ∈ wsG := wsG_t 551 (by decide +kernel) rfl
theorem tw_552 : Cond.instanceMethod ⟨"ColumnForms$Question", "ask", "(JI)V"⟩ ∈ wsG := wsG_t 552 (by decide +kernel) rfl
theorem tw_553 : Cond.selects "ColumnForms$Question" ⟨"ColumnForms$Question", "ask", "(JI)V"⟩ ⟨"ColumnForms$Question", "ask", "(JI)V"⟩ ∈ wsG := wsG_t 553 (by decide +kernel) rfl
theorem tw_554 : Cond.code ⟨"ColumnForms$Question", "ask", "(JI)V"⟩ prog_7_method_2_code 4 none ∈ wsG := wsG_t 554 (by decide +kernel) rfl
theorem tw_555 : Cond.methodLink "ColumnForms$Question" 20 ⟨"ColumnForms$Question", "fits", "(J)Z"⟩ ∈ wsG := wsG_t 555 (by decide +kernel) rfl
theorem tw_557 : Cond.instanceMethod ⟨"ColumnForms$Question", "fits", "(J)Z"⟩ ∈ wsG := wsG_t 557 (by decide +kernel) rfl
theorem tw_558 : Cond.code ⟨"ColumnForms$Question", "fits", "(J)Z"⟩ prog_7_method_3_code 3 (some .boolean) ∈ wsG := wsG_t 558 (by decide +kernel) rfl
theorem tw_559 : Cond.selects "ColumnForms$Packed" ⟨"ColumnForms$Form", "askAll", "(LColumnForms$Bytes;ILColumnForms$Question;)V"⟩ ⟨"ColumnForms$Packed", "askAll", "(LColumnForms$Bytes;ILColumnForms$Question;)V"⟩ ∈ wsG := wsG_t 559 (by decide +kernel) rfl
theorem tw_560 : Cond.instanceMethod ⟨"ColumnForms$Packed", "askAll", "(LColumnForms$Bytes;ILColumnForms$Question;)V"⟩ ∈ wsG := wsG_t 560 (by decide +kernel) rfl
theorem tw_561 : Cond.code ⟨"ColumnForms$Packed", "askAll", "(LColumnForms$Bytes;ILColumnForms$Question;)V"⟩ prog_5_method_5_code 8 none ∈ wsG := wsG_t 561 (by decide +kernel) rfl
theorem tw_562 : Cond.methodLink "ColumnForms$Packed" 43 ⟨"ColumnForms$Question", "ask", "(JI)V"⟩ ∈ wsG := wsG_t 562 (by decide +kernel) rfl
theorem tw_563 : Cond.selects "ColumnForms$Plain" ⟨"ColumnForms$Form", "askAll", "(LColumnForms$Bytes;ILColumnForms$Question;)V"⟩ ⟨"ColumnForms$Plain", "askAll", "(LColumnForms$Bytes;ILColumnForms$Question;)V"⟩ ∈ wsG := wsG_t 563 (by decide +kernel) rfl
theorem tw_564 : Cond.instanceMethod ⟨"ColumnForms$Plain", "askAll", "(LColumnForms$Bytes;ILColumnForms$Question;)V"⟩ ∈ wsG := wsG_t 564 (by decide +kernel) rfl
theorem tw_565 : Cond.code ⟨"ColumnForms$Plain", "askAll", "(LColumnForms$Bytes;ILColumnForms$Question;)V"⟩ prog_6_method_5_code 5 none ∈ wsG := wsG_t 565 (by decide +kernel) rfl
theorem tw_566 : Cond.methodLink "ColumnForms$Plain" 27 ⟨"ColumnForms$Plain", "read", "(LColumnForms$Bytes;I)J"⟩ ∈ wsG := wsG_t 566 (by decide +kernel) rfl
theorem tw_567 : Cond.methodLink "ColumnForms$Plain" 33 ⟨"ColumnForms$Question", "ask", "(JI)V"⟩ ∈ wsG := wsG_t 567 (by decide +kernel) rfl
theorem tw_568 : Cond.selects "ColumnForms$Runs" ⟨"ColumnForms$Form", "askAll", "(LColumnForms$Bytes;ILColumnForms$Question;)V"⟩ ⟨"ColumnForms$Runs", "askAll", "(LColumnForms$Bytes;ILColumnForms$Question;)V"⟩ ∈ wsG := wsG_t 568 (by decide +kernel) rfl
theorem tw_569 : Cond.instanceMethod ⟨"ColumnForms$Runs", "askAll", "(LColumnForms$Bytes;ILColumnForms$Question;)V"⟩ ∈ wsG := wsG_t 569 (by decide +kernel) rfl
theorem tw_570 : Cond.code ⟨"ColumnForms$Runs", "askAll", "(LColumnForms$Bytes;ILColumnForms$Question;)V"⟩ prog_9_method_5_code 6 none ∈ wsG := wsG_t 570 (by decide +kernel) rfl
theorem tw_571 : Cond.methodLink "ColumnForms$Runs" 46 ⟨"ColumnForms$Question", "ask", "(JI)V"⟩ ∈ wsG := wsG_t 571 (by decide +kernel) rfl
theorem tw_572 : Cond.selects "ColumnForms$Steps" ⟨"ColumnForms$Form", "askAll", "(LColumnForms$Bytes;ILColumnForms$Question;)V"⟩ ⟨"ColumnForms$Steps", "askAll", "(LColumnForms$Bytes;ILColumnForms$Question;)V"⟩ ∈ wsG := wsG_t 572 (by decide +kernel) rfl
theorem tw_573 : Cond.instanceMethod ⟨"ColumnForms$Steps", "askAll", "(LColumnForms$Bytes;ILColumnForms$Question;)V"⟩ ∈ wsG := wsG_t 573 (by decide +kernel) rfl
theorem tw_574 : Cond.code ⟨"ColumnForms$Steps", "askAll", "(LColumnForms$Bytes;ILColumnForms$Question;)V"⟩ prog_10_method_5_code 10 none ∈ wsG := wsG_t 574 (by decide +kernel) rfl
theorem tw_575 : Cond.methodLink "ColumnForms$Steps" 47 ⟨"ColumnForms$Question", "ask", "(JI)V"⟩ ∈ wsG := wsG_t 575 (by decide +kernel) rfl
theorem tw_576 : Cond.methodLink "ColumnFormsLaw" 99 ⟨"ColumnFormsLaw", "sum", "(LColumnForms;JJ[J)I"⟩ ∈ wsG := wsG_t 576 (by decide +kernel) rfl
theorem tw_577 : Cond.static ⟨"ColumnFormsLaw", "sum", "(LColumnForms;JJ[J)I"⟩ ∈ wsG := wsG_t 577 (by decide +kernel) rfl
theorem tw_578 : Cond.codeWith ⟨"ColumnFormsLaw", "sum", "(LColumnForms;JJ[J)I"⟩ method_11_code 7 (some .int) [(0, 10, 13, 13)] ∈ wsG := wsG_t 578 (by decide +kernel) rfl
theorem tw_579 : Cond.methodLink "ColumnFormsLaw" 43 ⟨"ColumnForms", "sum", "(JJ)J"⟩ ∈ wsG := wsG_t 579 (by decide +kernel) rfl
theorem tw_580 : Cond.instanceMethod ⟨"ColumnForms", "sum", "(JJ)J"⟩ ∈ wsG := wsG_t 580 (by decide +kernel) rfl
theorem tw_581 : Cond.selects "ColumnForms" ⟨"ColumnForms", "sum", "(JJ)J"⟩ ⟨"ColumnForms", "sum", "(JJ)J"⟩ ∈ wsG := wsG_t 581 (by decide +kernel) rfl
theorem tw_582 : Cond.code ⟨"ColumnForms", "sum", "(JJ)J"⟩ prog_1_method_13_code 6 (some .long) ∈ wsG := wsG_t 582 (by decide +kernel) rfl
theorem tw_583 : Cond.classLink "ColumnFormsLaw" 48 "ColumnFormsModel" ∈ wsG := wsG_t 583 (by decide +kernel) rfl
theorem tw_584 : Cond.instantiable "ColumnFormsModel" 11 ∈ wsG := wsG_t 584 (by decide +kernel) rfl
theorem tw_585 : Cond.methodLink "ColumnFormsLaw" 50 ⟨"ColumnFormsModel", "<init>", "()V"⟩ ∈ wsG := wsG_t 585 (by decide +kernel) rfl
theorem tw_586 : Cond.instanceMethod ⟨"ColumnFormsModel", "<init>", "()V"⟩ ∈ wsG := wsG_t 586 (by decide +kernel) rfl
theorem tw_587 : Cond.code ⟨"ColumnFormsModel", "<init>", "()V"⟩ prog_12_method_1_code 1 none ∈ wsG := wsG_t 587 (by decide +kernel) rfl
theorem tw_588 : Cond.methodLink "ColumnFormsModel" 1 ⟨"java/lang/Object", "<init>", "()V"⟩ ∈ wsG := wsG_t 588 (by decide +kernel) rfl
theorem tw_589 : Cond.fieldLink "ColumnFormsModel" 27 "ColumnFormsModel" "code" "I" ∈ wsG := wsG_t 589 (by decide +kernel) rfl
theorem tw_590 : Cond.fieldLink "ColumnFormsModel" 30 "ColumnFormsModel" "count" "I" ∈ wsG := wsG_t 590 (by decide +kernel) rfl
theorem tw_591 : Cond.fieldLink "ColumnFormsModel" 7 "ColumnFormsModel" "row" "[J" ∈ wsG := wsG_t 591 (by decide +kernel) rfl
theorem tw_592 : Cond.fieldLink "ColumnFormsModel" 13 "ColumnFormsModel" "form" "I" ∈ wsG := wsG_t 592 (by decide +kernel) rfl
theorem tw_593 : Cond.fieldLink "ColumnFormsModel" 88 "ColumnFormsModel" "cells" "I" ∈ wsG := wsG_t 593 (by decide +kernel) rfl
theorem tw_594 : Cond.fieldLink "ColumnFormsModel" 17 "ColumnFormsModel" "cell" "[J" ∈ wsG := wsG_t 594 (by decide +kernel) rfl
theorem tw_595 : Cond.fieldLink "ColumnFormsModel" 77 "ColumnFormsModel" "size" "I" ∈ wsG := wsG_t 595 (by decide +kernel) rfl
theorem tw_596 : Cond.fieldLink "ColumnFormsModel" 20 "ColumnFormsModel" "bytes" "[I" ∈ wsG := wsG_t 596 (by decide +kernel) rfl
theorem tw_597 : Cond.fieldLink "ColumnFormsModel" 74 "ColumnFormsModel" "bits" "I" ∈ wsG := wsG_t 597 (by decide +kernel) rfl
theorem tw_598 : Cond.fieldLink "ColumnFormsModel" 37 "ColumnFormsModel" "different" "I" ∈ wsG := wsG_t 598 (by decide +kernel) rfl
theorem tw_599 : Cond.fieldLink "ColumnFormsModel" 24 "ColumnFormsModel" "list" "[J" ∈ wsG := wsG_t 599 (by decide +kernel) rfl
theorem tw_600 : Cond.lays "ColumnFormsModel" "ColumnFormsModel" "code" "I" ∈ wsG := wsG_t 600 (by decide +kernel) rfl
theorem tw_602 : Cond.lays "ColumnFormsModel" "ColumnFormsModel" "count" "I" ∈ wsG := wsG_t 602 (by decide +kernel) rfl
theorem tw_604 : Cond.laysFinal "ColumnFormsModel" "ColumnFormsModel" "row" "[J" ∈ wsG := wsG_t 604 (by decide +kernel) rfl
theorem tw_606 : Cond.lays "ColumnFormsModel" "ColumnFormsModel" "form" "I" ∈ wsG := wsG_t 606 (by decide +kernel) rfl
theorem tw_608 : Cond.lays "ColumnFormsModel" "ColumnFormsModel" "cells" "I" ∈ wsG := wsG_t 608 (by decide +kernel) rfl
theorem tw_610 : Cond.laysFinal "ColumnFormsModel" "ColumnFormsModel" "cell" "[J" ∈ wsG := wsG_t 610 (by decide +kernel) rfl
theorem tw_612 : Cond.lays "ColumnFormsModel" "ColumnFormsModel" "size" "I" ∈ wsG := wsG_t 612 (by decide +kernel) rfl
theorem tw_614 : Cond.laysFinal "ColumnFormsModel" "ColumnFormsModel" "bytes" "[I" ∈ wsG := wsG_t 614 (by decide +kernel) rfl
theorem tw_616 : Cond.lays "ColumnFormsModel" "ColumnFormsModel" "bits" "I" ∈ wsG := wsG_t 616 (by decide +kernel) rfl
theorem tw_618 : Cond.lays "ColumnFormsModel" "ColumnFormsModel" "different" "I" ∈ wsG := wsG_t 618 (by decide +kernel) rfl
theorem tw_620 : Cond.laysFinal "ColumnFormsModel" "ColumnFormsModel" "list" "[J" ∈ wsG := wsG_t 620 (by decide +kernel) rfl
theorem tw_622 : Cond.superclass "ColumnFormsModel" "java/lang/Object" ∈ wsG := wsG_t 622 (by decide +kernel) rfl
theorem tw_623 : Cond.methodLink "ColumnFormsLaw" 59 ⟨"ColumnFormsModel", "thrown", "()I"⟩ ∈ wsG := wsG_t 623 (by decide +kernel) rfl
theorem tw_624 : Cond.instanceMethod ⟨"ColumnFormsModel", "thrown", "()I"⟩ ∈ wsG := wsG_t 624 (by decide +kernel) rfl
theorem tw_625 : Cond.selects "ColumnFormsModel" ⟨"ColumnFormsModel", "thrown", "()I"⟩ ⟨"ColumnFormsModel", "thrown", "()I"⟩ ∈ wsG := wsG_t 625 (by decide +kernel) rfl
theorem tw_626 : Cond.code ⟨"ColumnFormsModel", "thrown", "()I"⟩ prog_12_method_2_code 1 (some .int) ∈ wsG := wsG_t 626 (by decide +kernel) rfl
theorem tw_627 : Cond.methodLink "ColumnFormsLaw" 58 ⟨"ColumnFormsModel", "put", "(J)I"⟩ ∈ wsG := wsG_t 627 (by decide +kernel) rfl
theorem tw_628 : Cond.instanceMethod ⟨"ColumnFormsModel", "put", "(J)I"⟩ ∈ wsG := wsG_t 628 (by decide +kernel) rfl
theorem tw_629 : Cond.selects "ColumnFormsModel" ⟨"ColumnFormsModel", "put", "(J)I"⟩ ⟨"ColumnFormsModel", "put", "(J)I"⟩ ∈ wsG := wsG_t 629 (by decide +kernel) rfl
theorem tw_630 : Cond.code ⟨"ColumnFormsModel", "put", "(J)I"⟩ prog_12_method_3_code 3 (some .int) ∈ wsG := wsG_t 630 (by decide +kernel) rfl
theorem tw_631 : Cond.methodLink "ColumnFormsLaw" 65 ⟨"ColumnFormsModel", "fill", "(JJI)I"⟩ ∈ wsG := wsG_t 631 (by decide +kernel) rfl
theorem tw_632 : Cond.instanceMethod ⟨"ColumnFormsModel", "fill", "(JJI)I"⟩ ∈ wsG := wsG_t 632 (by decide +kernel) rfl
theorem tw_633 : Cond.selects "ColumnFormsModel" ⟨"ColumnFormsModel", "fill", "(JJI)I"⟩ ⟨"ColumnFormsModel", "fill", "(JJI)I"⟩ ∈ wsG := wsG_t 633 (by decide +kernel) rfl
theorem tw_634 : Cond.code ⟨"ColumnFormsModel", "fill", "(JJI)I"⟩ prog_12_method_4_code 9 (some .int) ∈ wsG := wsG_t 634 (by decide +kernel) rfl
theorem tw_635 : Cond.methodLink "ColumnFormsLaw" 69 ⟨"ColumnFormsModel", "clear", "()I"⟩ ∈ wsG := wsG_t 635 (by decide +kernel) rfl
theorem tw_636 : Cond.instanceMethod ⟨"ColumnFormsModel", "clear", "()I"⟩ ∈ wsG := wsG_t 636 (by decide +kernel) rfl
theorem tw_637 : Cond.selects "ColumnFormsModel" ⟨"ColumnFormsModel", "clear", "()I"⟩ ⟨"ColumnFormsModel", "clear", "()I"⟩ ∈ wsG := wsG_t 637 (by decide +kernel) rfl
theorem tw_638 : Cond.code ⟨"ColumnFormsModel", "clear", "()I"⟩ prog_12_method_5_code 2 (some .int) ∈ wsG := wsG_t 638 (by decide +kernel) rfl
theorem tw_639 : Cond.methodLink "ColumnFormsLaw" 73 ⟨"ColumnFormsModel", "weight", "(I)I"⟩ ∈ wsG := wsG_t 639 (by decide +kernel) rfl
theorem tw_640 : Cond.instanceMethod ⟨"ColumnFormsModel", "weight", "(I)I"⟩ ∈ wsG := wsG_t 640 (by decide +kernel) rfl
theorem tw_641 : Cond.selects "ColumnFormsModel" ⟨"ColumnFormsModel", "weight", "(I)I"⟩ ⟨"ColumnFormsModel", "weight", "(I)I"⟩ ∈ wsG := wsG_t 641 (by decide +kernel) rfl
theorem tw_642 : Cond.code ⟨"ColumnFormsModel", "weight", "(I)I"⟩ prog_12_method_17_code 2 (some .int) ∈ wsG := wsG_t 642 (by decide +kernel) rfl
theorem tw_643 : Cond.methodLink "ColumnFormsModel" 71 ⟨"ColumnFormsModel", "weigh", "(I)I"⟩ ∈ wsG := wsG_t 643 (by decide +kernel) rfl
theorem tw_645 : Cond.instanceMethod ⟨"ColumnFormsModel", "weigh", "(I)I"⟩ ∈ wsG := wsG_t 645 (by decide +kernel) rfl
theorem tw_646 : Cond.code ⟨"ColumnFormsModel", "weigh", "(I)I"⟩ prog_12_method_16_code 2 (some .int) ∈ wsG := wsG_t 646 (by decide +kernel) rfl
theorem tw_647 : Cond.methodLink "ColumnFormsModel" 44 ⟨"ColumnFormsModel", "greatest", "()J"⟩ ∈ wsG := wsG_t 647 (by decide +kernel) rfl
theorem tw_649 : Cond.instanceMethod ⟨"ColumnFormsModel", "greatest", "()J"⟩ ∈ wsG := wsG_t 649 (by decide +kernel) rfl
theorem tw_650 : Cond.code ⟨"ColumnFormsModel", "greatest", "()J"⟩ prog_12_method_8_code 4 (some .long) ∈ wsG := wsG_t 650 (by decide +kernel) rfl
theorem tw_651 : Cond.methodLink "ColumnFormsModel" 48 ⟨"ColumnFormsModel", "least", "()J"⟩ ∈ wsG := wsG_t 651 (by decide +kernel) rfl
theorem tw_653 : Cond.instanceMethod ⟨"ColumnFormsModel", "least", "()J"⟩ ∈ wsG := wsG_t 653 (by decide +kernel) rfl
theorem tw_654 : Cond.code ⟨"ColumnFormsModel", "least", "()J"⟩ prog_12_method_7_code 4 (some .long) ∈ wsG := wsG_t 654 (by decide +kernel) rfl
theorem tw_655 : Cond.methodLink "ColumnFormsModel" 51 ⟨"ColumnFormsModel", "digits", "(J)I"⟩ ∈ wsG := wsG_t 655 (by decide +kernel) rfl
theorem tw_656 : Cond.static ⟨"ColumnFormsModel", "digits", "(J)I"⟩ ∈ wsG := wsG_t 656 (by decide +kernel) rfl
theorem tw_657 : Cond.code ⟨"ColumnFormsModel", "digits", "(J)I"⟩ prog_12_method_6_code 4 (some .int) ∈ wsG := wsG_t 657 (by decide +kernel) rfl
theorem tw_658 : Cond.methodLink "ColumnFormsModel" 54 ⟨"ColumnFormsModel", "whole", "(I)I"⟩ ∈ wsG := wsG_t 658 (by decide +kernel) rfl
theorem tw_659 : Cond.static ⟨"ColumnFormsModel", "whole", "(I)I"⟩ ∈ wsG := wsG_t 659 (by decide +kernel) rfl
theorem tw_660 : Cond.code ⟨"ColumnFormsModel", "whole", "(I)I"⟩ prog_12_method_15_code 1 (some .int) ∈ wsG := wsG_t 660 (by decide +kernel) rfl
theorem tw_661 : Cond.methodLink "ColumnFormsModel" 58 ⟨"ColumnFormsModel", "listAll", "()V"⟩ ∈ wsG := wsG_t 661 (by decide +kernel) rfl
theorem tw_663 : Cond.instanceMethod ⟨"ColumnFormsModel", "listAll", "()V"⟩ ∈ wsG := wsG_t 663 (by decide +kernel) rfl
theorem tw_664 : Cond.code ⟨"ColumnFormsModel", "listAll", "()V"⟩ prog_12_method_13_code 4 none ∈ wsG := wsG_t 664 (by decide +kernel) rfl
theorem tw_665 : Cond.methodLink "ColumnFormsModel" 40 ⟨"ColumnFormsModel", "placeOf", "(J)I"⟩ ∈ wsG := wsG_t 665 (by decide +kernel) rfl
theorem tw_667 : Cond.instanceMethod ⟨"ColumnFormsModel", "placeOf", "(J)I"⟩ ∈ wsG := wsG_t 667 (by decide +kernel) rfl
theorem tw_668 : Cond.code ⟨"ColumnFormsModel", "placeOf", "(J)I"⟩ prog_12_method_14_code 4 (some .int) ∈ wsG := wsG_t 668 (by decide +kernel) rfl
theorem tw_669 : Cond.methodLink "ColumnFormsModel" 61 ⟨"ColumnFormsModel", "runs", "()I"⟩ ∈ wsG := wsG_t 669 (by decide +kernel) rfl
theorem tw_671 : Cond.instanceMethod ⟨"ColumnFormsModel", "runs", "()I"⟩ ∈ wsG := wsG_t 671 (by decide +kernel) rfl
theorem tw_672 : Cond.code ⟨"ColumnFormsModel", "runs", "()I"⟩ prog_12_method_12_code 3 (some .int) ∈ wsG := wsG_t 672 (by decide +kernel) rfl
theorem tw_673 : Cond.methodLink "ColumnFormsModel" 65 ⟨"ColumnFormsModel", "greatestStep", "()J"⟩ ∈ wsG := wsG_t 673 (by decide +kernel) rfl
theorem tw_675 : Cond.instanceMethod ⟨"ColumnFormsModel", "greatestStep", "()J"⟩ ∈ wsG := wsG_t 675 (by decide +kernel) rfl
theorem tw_676 : Cond.code ⟨"ColumnFormsModel", "greatestStep", "()J"⟩ prog_12_method_11_code 4 (some .long) ∈ wsG := wsG_t 676 (by decide +kernel) rfl
theorem tw_677 : Cond.methodLink "ColumnFormsModel" 33 ⟨"ColumnFormsModel", "step", "(I)J"⟩ ∈ wsG := wsG_t 677 (by decide +kernel) rfl
theorem tw_679 : Cond.instanceMethod ⟨"ColumnFormsModel", "step", "(I)J"⟩ ∈ wsG := wsG_t 679 (by decide +kernel) rfl
theorem tw_680 : Cond.code ⟨"ColumnFormsModel", "step", "(I)J"⟩ prog_12_method_9_code 2 (some .long) ∈ wsG := wsG_t 680 (by decide +kernel) rfl
theorem tw_681 : Cond.methodLink "ColumnFormsModel" 68 ⟨"ColumnFormsModel", "leastStep", "()J"⟩ ∈ wsG := wsG_t 681 (by decide +kernel) rfl
theorem tw_683 : Cond.instanceMethod ⟨"ColumnFormsModel", "leastStep", "()J"⟩ ∈ wsG := wsG_t 683 (by decide +kernel) rfl
theorem tw_684 : Cond.code ⟨"ColumnFormsModel", "leastStep", "()J"⟩ prog_12_method_10_code 4 (some .long) ∈ wsG := wsG_t 684 (by decide +kernel) rfl
theorem tw_685 : Cond.methodLink "ColumnFormsLaw" 77 ⟨"ColumnFormsModel", "write", "()I"⟩ ∈ wsG := wsG_t 685 (by decide +kernel) rfl
theorem tw_686 : Cond.instanceMethod ⟨"ColumnFormsModel", "write", "()I"⟩ ∈ wsG := wsG_t 686 (by decide +kernel) rfl
theorem tw_687 : Cond.selects "ColumnFormsModel" ⟨"ColumnFormsModel", "write", "()I"⟩ ⟨"ColumnFormsModel", "write", "()I"⟩ ∈ wsG := wsG_t 687 (by decide +kernel) rfl
theorem tw_688 : Cond.code ⟨"ColumnFormsModel", "write", "()I"⟩ prog_12_method_24_code 3 (some .int) ∈ wsG := wsG_t 688 (by decide +kernel) rfl
theorem tw_689 : Cond.methodLink "ColumnFormsModel" 100 ⟨"ColumnFormsModel", "writeIn", "(I)I"⟩ ∈ wsG := wsG_t 689 (by decide +kernel) rfl
theorem tw_691 : Cond.instanceMethod ⟨"ColumnFormsModel", "writeIn", "(I)I"⟩ ∈ wsG := wsG_t 691 (by decide +kernel) rfl
theorem tw_692 : Cond.code ⟨"ColumnFormsModel", "writeIn", "(I)I"⟩ prog_12_method_23_code 6 (some .int) ∈ wsG := wsG_t 692 (by decide +kernel) rfl
theorem tw_693 : Cond.methodLink "ColumnFormsModel" 84 ⟨"ColumnFormsModel", "number", "(JI)V"⟩ ∈ wsG := wsG_t 693 (by decide +kernel) rfl
theorem tw_695 : Cond.instanceMethod ⟨"ColumnFormsModel", "number", "(JI)V"⟩ ∈ wsG := wsG_t 695 (by decide +kernel) rfl
theorem tw_696 : Cond.code ⟨"ColumnFormsModel", "number", "(JI)V"⟩ prog_12_method_19_code 5 none ∈ wsG := wsG_t 696 (by decide +kernel) rfl
theorem tw_697 : Cond.methodLink "ColumnFormsModel" 80 ⟨"ColumnFormsModel", "bit", "(I)V"⟩ ∈ wsG := wsG_t 697 (by decide +kernel) rfl
theorem tw_699 : Cond.instanceMethod ⟨"ColumnFormsModel", "bit", "(I)V"⟩ ∈ wsG := wsG_t 699 (by decide +kernel) rfl
theorem tw_700 : Cond.code ⟨"ColumnFormsModel", "bit", "(I)V"⟩ prog_12_method_18_code 2 none ∈ wsG := wsG_t 700 (by decide +kernel) rfl
theorem tw_701 : Cond.methodLink "ColumnFormsModel" 91 ⟨"ColumnFormsModel", "writeList", "()V"⟩ ∈ wsG := wsG_t 701 (by decide +kernel) rfl
theorem tw_703 : Cond.instanceMethod ⟨"ColumnFormsModel", "writeList", "()V"⟩ ∈ wsG := wsG_t 703 (by decide +kernel) rfl
theorem tw_704 : Cond.code ⟨"ColumnFormsModel", "writeList", "()V"⟩ prog_12_method_21_code 3 none ∈ wsG := wsG_t 704 (by decide +kernel) rfl
theorem tw_705 : Cond.methodLink "ColumnFormsModel" 94 ⟨"ColumnFormsModel", "writeRuns", "()V"⟩ ∈ wsG := wsG_t 705 (by decide +kernel) rfl
theorem tw_707 : Cond.instanceMethod ⟨"ColumnFormsModel", "writeRuns", "()V"⟩ ∈ wsG := wsG_t 707 (by decide +kernel) rfl
theorem tw_708 : Cond.code ⟨"ColumnFormsModel", "writeRuns", "()V"⟩ prog_12_method_20_code 3 none ∈ wsG := wsG_t 708 (by decide +kernel) rfl
theorem tw_709 : Cond.methodLink "ColumnFormsModel" 97 ⟨"ColumnFormsModel", "writeSteps", "()V"⟩ ∈ wsG := wsG_t 709 (by decide +kernel) rfl
theorem tw_711 : Cond.instanceMethod ⟨"ColumnFormsModel", "writeSteps", "()V"⟩ ∈ wsG := wsG_t 711 (by decide +kernel) rfl
theorem tw_712 : Cond.code ⟨"ColumnFormsModel", "writeSteps", "()V"⟩ prog_12_method_22_code 5 none ∈ wsG := wsG_t 712 (by decide +kernel) rfl
theorem tw_713 : Cond.methodLink "ColumnFormsLaw" 80 ⟨"ColumnFormsModel", "writeAs", "(I)I"⟩ ∈ wsG := wsG_t 713 (by decide +kernel) rfl
theorem tw_714 : Cond.instanceMethod ⟨"ColumnFormsModel", "writeAs", "(I)I"⟩ ∈ wsG := wsG_t 714 (by decide +kernel) rfl
theorem tw_715 : Cond.selects "ColumnFormsModel" ⟨"ColumnFormsModel", "writeAs", "(I)I"⟩ ⟨"ColumnFormsModel", "writeAs", "(I)I"⟩ ∈ wsG := wsG_t 715 (by decide +kernel) rfl
theorem tw_716 : Cond.code ⟨"ColumnFormsModel", "writeAs", "(I)I"⟩ prog_12_method_25_code 2 (some .int) ∈ wsG := wsG_t 716 (by decide +kernel) rfl
theorem tw_717 : Cond.methodLink "ColumnFormsLaw" 84 ⟨"ColumnFormsModel", "form", "()I"⟩ ∈ wsG := wsG_t 717 (by decide +kernel) rfl
theorem tw_718 : Cond.instanceMethod ⟨"ColumnFormsModel", "form", "()I"⟩ ∈ wsG := wsG_t 718 (by decide +kernel) rfl
theorem tw_719 : Cond.selects "ColumnFormsModel" ⟨"ColumnFormsModel", "form", "()I"⟩ ⟨"ColumnFormsModel", "form", "()I"⟩ ∈ wsG := wsG_t 719 (by decide +kernel) rfl
theorem tw_720 : Cond.code ⟨"ColumnFormsModel", "form", "()I"⟩ prog_12_method_26_code 1 (some .int) ∈ wsG := wsG_t 720 (by decide +kernel) rfl
theorem tw_721 : Cond.methodLink "ColumnFormsLaw" 88 ⟨"ColumnFormsModel", "size", "()I"⟩ ∈ wsG := wsG_t 721 (by decide +kernel) rfl
theorem tw_722 : Cond.instanceMethod ⟨"ColumnFormsModel", "size", "()I"⟩ ∈ wsG := wsG_t 722 (by decide +kernel) rfl
theorem tw_723 : Cond.selects "ColumnFormsModel" ⟨"ColumnFormsModel", "size", "()I"⟩ ⟨"ColumnFormsModel", "size", "()I"⟩ ∈ wsG := wsG_t 723 (by decide +kernel) rfl
theorem tw_724 : Cond.code ⟨"ColumnFormsModel", "size", "()I"⟩ prog_12_method_27_code 1 (some .int) ∈ wsG := wsG_t 724 (by decide +kernel) rfl
theorem tw_725 : Cond.methodLink "ColumnFormsLaw" 91 ⟨"ColumnFormsModel", "byteAt", "(I)I"⟩ ∈ wsG := wsG_t 725 (by decide +kernel) rfl
theorem tw_726 : Cond.instanceMethod ⟨"ColumnFormsModel", "byteAt", "(I)I"⟩ ∈ wsG := wsG_t 726 (by decide +kernel) rfl
theorem tw_727 : Cond.selects "ColumnFormsModel" ⟨"ColumnFormsModel", "byteAt", "(I)I"⟩ ⟨"ColumnFormsModel", "byteAt", "(I)I"⟩ ∈ wsG := wsG_t 727 (by decide +kernel) rfl
theorem tw_728 : Cond.code ⟨"ColumnFormsModel", "byteAt", "(I)I"⟩ prog_12_method_28_code 2 (some .int) ∈ wsG := wsG_t 728 (by decide +kernel) rfl
theorem tw_729 : Cond.methodLink "ColumnFormsLaw" 94 ⟨"ColumnFormsModel", "cell", "(I)J"⟩ ∈ wsG := wsG_t 729 (by decide +kernel) rfl
theorem tw_730 : Cond.instanceMethod ⟨"ColumnFormsModel", "cell", "(I)J"⟩ ∈ wsG := wsG_t 730 (by decide +kernel) rfl
theorem tw_731 : Cond.selects "ColumnFormsModel" ⟨"ColumnFormsModel", "cell", "(I)J"⟩ ⟨"ColumnFormsModel", "cell", "(I)J"⟩ ∈ wsG := wsG_t 731 (by decide +kernel) rfl
theorem tw_732 : Cond.code ⟨"ColumnFormsModel", "cell", "(I)J"⟩ prog_12_method_29_code 2 (some .long) ∈ wsG := wsG_t 732 (by decide +kernel) rfl
theorem tw_733 : Cond.methodLink "ColumnFormsLaw" 98 ⟨"ColumnFormsModel", "count", "(IJ)I"⟩ ∈ wsG := wsG_t 733 (by decide +kernel) rfl
theorem tw_734 : Cond.instanceMethod ⟨"ColumnFormsModel", "count", "(IJ)I"⟩ ∈ wsG := wsG_t 734 (by decide +kernel) rfl
theorem tw_735 : Cond.selects "ColumnFormsModel" ⟨"ColumnFormsModel", "count", "(IJ)I"⟩ ⟨"ColumnFormsModel", "count", "(IJ)I"⟩ ∈ wsG := wsG_t 735 (by decide +kernel) rfl
theorem tw_736 : Cond.code ⟨"ColumnFormsModel", "count", "(IJ)I"⟩ prog_12_method_31_code 6 (some .int) ∈ wsG := wsG_t 736 (by decide +kernel) rfl
theorem tw_737 : Cond.methodLink "ColumnFormsModel" 103 ⟨"ColumnFormsModel", "is", "(IJJ)Z"⟩ ∈ wsG := wsG_t 737 (by decide +kernel) rfl
theorem tw_738 : Cond.static ⟨"ColumnFormsModel", "is", "(IJJ)Z"⟩ ∈ wsG := wsG_t 738 (by decide +kernel) rfl
theorem tw_739 : Cond.code ⟨"ColumnFormsModel", "is", "(IJJ)Z"⟩ prog_12_method_30_code 5 (some .boolean) ∈ wsG := wsG_t 739 (by decide +kernel) rfl
theorem tw_740 : Cond.methodLink "ColumnFormsLaw" 102 ⟨"ColumnFormsModel", "sum", "(JJ)J"⟩ ∈ wsG := wsG_t 740 (by decide +kernel) rfl
theorem tw_741 : Cond.instanceMethod ⟨"ColumnFormsModel", "sum", "(JJ)J"⟩ ∈ wsG := wsG_t 741 (by decide +kernel) rfl
theorem tw_742 : Cond.selects "ColumnFormsModel" ⟨"ColumnFormsModel", "sum", "(JJ)J"⟩ ⟨"ColumnFormsModel", "sum", "(JJ)J"⟩ ∈ wsG := wsG_t 742 (by decide +kernel) rfl
theorem tw_743 : Cond.code ⟨"ColumnFormsModel", "sum", "(JJ)J"⟩ prog_12_method_32_code 8 (some .long) ∈ wsG := wsG_t 743 (by decide +kernel) rfl
theorem tw_744 : Cond.constantLong "ColumnFormsLaw" 51 4294967295 ∈ wsG := wsG_t 744 (by decide +kernel) rfl
theorem tw_745 : Cond.sameMethod "java/lang/Throwable" "java/lang/Throwable" "fillInStackTrace" "(I)Ljava/lang/Throwable;" ∈ wsG := wsG_t 745 (by decide +kernel) rfl
theorem tw_746 : Cond.selects "ColumnForms$Plain" ⟨"ColumnForms$Plain", "read", "(LColumnForms$Bytes;I)J"⟩ ⟨"ColumnForms$Plain", "read", "(LColumnForms$Bytes;I)J"⟩ ∈ wsG := wsG_t 746 (by decide +kernel) rfl
theorem tw_obj : Cond.code objectInit ⟨#[0xb1]⟩ 1 none ∈ wsG := tw_29
theorem inBy : ∀ w ∈ u_ws "ColumnForms$Bytes" TBy 2, w ∈ wsG := fun w hw => by
  obtain ⟨k, hk, rfl⟩ := List.mem_map.mp hw
  have hk := List.mem_range.mp hk
  rcases (show k = 0 ∨ k = 1 by omega) with rfl | rfl
  · exact tw_85
  · exact tw_87
theorem inLi : ∀ w ∈ u_ws "ColumnForms$Listed" TLi 1, w ∈ wsG := fun w hw => by
  obtain ⟨k, hk, rfl⟩ := List.mem_map.mp hw
  have hk := List.mem_range.mp hk
  rcases (show k = 0 by omega) with rfl
  · exact tw_117
theorem inPa : ∀ w ∈ u_ws "ColumnForms$Packed" TPa 0, w ∈ wsG := fun w hw => nomatch hw
theorem inPl : ∀ w ∈ u_ws "ColumnForms$Plain" TPl 0, w ∈ wsG := fun w hw => nomatch hw
theorem inQu : ∀ w ∈ u_ws "ColumnForms$Question" TQu 5, w ∈ wsG := fun w hw => by
  obtain ⟨k, hk, rfl⟩ := List.mem_map.mp hw
  have hk := List.mem_range.mp hk
  rcases (show k = 0 ∨ k = 1 ∨ k = 2 ∨ k = 3 ∨ k = 4 by omega) with rfl | rfl | rfl | rfl | rfl
  · exact tw_526
  · exact tw_528
  · exact tw_530
  · exact tw_532
  · exact tw_534
theorem inRo : ∀ w ∈ u_ws "ColumnForms$Row" TRo 9, w ∈ wsG := fun w hw => by
  obtain ⟨k, hk, rfl⟩ := List.mem_map.mp hw
  have hk := List.mem_range.mp hk
  rcases (show k = 0 ∨ k = 1 ∨ k = 2 ∨ k = 3 ∨ k = 4 ∨ k = 5 ∨ k = 6 ∨ k = 7 ∨ k = 8 by omega) with rfl | rfl | rfl | rfl | rfl | rfl | rfl | rfl | rfl
  · exact tw_57
  · exact tw_59
  · exact tw_61
  · exact tw_63
  · exact tw_65
  · exact tw_67
  · exact tw_69
  · exact tw_71
  · exact tw_73
theorem inRu : ∀ w ∈ u_ws "ColumnForms$Runs" TRu 0, w ∈ wsG := fun w hw => nomatch hw
theorem inSs : ∀ w ∈ u_ws "ColumnForms$Steps" TSs 0, w ∈ wsG := fun w hw => nomatch hw
theorem inCf : ∀ w ∈ u_ws "ColumnForms" TCf 5, w ∈ wsG := fun w hw => by
  obtain ⟨k, hk, rfl⟩ := List.mem_map.mp hw
  have hk := List.mem_range.mp hk
  rcases (show k = 0 ∨ k = 1 ∨ k = 2 ∨ k = 3 ∨ k = 4 by omega) with rfl | rfl | rfl | rfl | rfl
  · exact tw_140
  · exact tw_142
  · exact tw_144
  · exact tw_146
  · exact tw_148
theorem inMo : ∀ w ∈ u_ws "ColumnFormsModel" TMo 11, w ∈ wsG := fun w hw => by
  obtain ⟨k, hk, rfl⟩ := List.mem_map.mp hw
  have hk := List.mem_range.mp hk
  rcases (show k = 0 ∨ k = 1 ∨ k = 2 ∨ k = 3 ∨ k = 4 ∨ k = 5 ∨ k = 6 ∨ k = 7 ∨ k = 8 ∨ k = 9 ∨ k = 10 by omega) with rfl | rfl | rfl | rfl | rfl | rfl | rfl | rfl | rfl | rfl | rfl
  · exact tw_600
  · exact tw_602
  · exact tw_604
  · exact tw_606
  · exact tw_608
  · exact tw_610
  · exact tw_612
  · exact tw_614
  · exact tw_616
  · exact tw_618
  · exact tw_620
end
section
theorem dCf_init_0 : decode cCf_init 0 = .ok (.aload_n 0, 1) := by decide +kernel
theorem dCf_init_1 : decode cCf_init 1 = .ok (.invokespecial 1, 3) := by decide +kernel
theorem dCf_init_4 : decode cCf_init 4 = .ok (.aload_n 0, 1) := by decide +kernel
theorem dCf_init_5 : decode cCf_init 5 = .ok (.new 7, 3) := by decide +kernel
theorem dCf_init_8 : decode cCf_init 8 = .ok (.dup, 1) := by decide +kernel
theorem dCf_init_9 : decode cCf_init 9 = .ok (.invokespecial 9, 3) := by decide +kernel
theorem dCf_init_12 : decode cCf_init 12 = .ok (.putfield 10, 3) := by decide +kernel
theorem dCf_init_15 : decode cCf_init 15 = .ok (.aload_n 0, 1) := by decide +kernel
theorem dCf_init_16 : decode cCf_init 16 = .ok (.new 16, 3) := by decide +kernel
theorem dCf_init_19 : decode cCf_init 19 = .ok (.dup, 1) := by decide +kernel
theorem dCf_init_20 : decode cCf_init 20 = .ok (.invokespecial 18, 3) := by decide +kernel
theorem dCf_init_23 : decode cCf_init 23 = .ok (.putfield 19, 3) := by decide +kernel
theorem dCf_init_26 : decode cCf_init 26 = .ok (.aload_n 0, 1) := by decide +kernel
theorem dCf_init_27 : decode cCf_init 27 = .ok (.iconst 5, 1) := by decide +kernel
theorem dCf_init_28 : decode cCf_init 28 = .ok (.anewarray 23, 3) := by decide +kernel
theorem dCf_init_31 : decode cCf_init 31 = .ok (.dup, 1) := by decide +kernel
theorem dCf_init_32 : decode cCf_init 32 = .ok (.iconst 0, 1) := by decide +kernel
theorem dCf_init_33 : decode cCf_init 33 = .ok (.new 25, 3) := by decide +kernel
theorem dCf_init_36 : decode cCf_init 36 = .ok (.dup, 1) := by decide +kernel
theorem dCf_init_37 : decode cCf_init 37 = .ok (.invokespecial 27, 3) := by decide +kernel
theorem dCf_init_40 : decode cCf_init 40 = .ok (.aastore, 1) := by decide +kernel
theorem dCf_init_41 : decode cCf_init 41 = .ok (.dup, 1) := by decide +kernel
theorem dCf_init_42 : decode cCf_init 42 = .ok (.iconst 1, 1) := by decide +kernel
theorem dCf_init_43 : decode cCf_init 43 = .ok (.new 28, 3) := by decide +kernel
theorem dCf_init_46 : decode cCf_init 46 = .ok (.dup, 1) := by decide +kernel
theorem dCf_init_47 : decode cCf_init 47 = .ok (.invokespecial 30, 3) := by decide +kernel
theorem dCf_init_50 : decode cCf_init 50 = .ok (.aastore, 1) := by decide +kernel
theorem dCf_init_51 : decode cCf_init 51 = .ok (.dup, 1) := by decide +kernel
theorem dCf_init_52 : decode cCf_init 52 = .ok (.iconst 2, 1) := by decide +kernel
theorem dCf_init_53 : decode cCf_init 53 = .ok (.new 31, 3) := by decide +kernel
theorem dCf_init_56 : decode cCf_init 56 = .ok (.dup, 1) := by decide +kernel
theorem dCf_init_57 : decode cCf_init 57 = .ok (.invokespecial 33, 3) := by decide +kernel
theorem dCf_init_60 : decode cCf_init 60 = .ok (.aastore, 1) := by decide +kernel
theorem dCf_init_61 : decode cCf_init 61 = .ok (.dup, 1) := by decide +kernel
theorem dCf_init_62 : decode cCf_init 62 = .ok (.iconst 3, 1) := by decide +kernel
theorem dCf_init_63 : decode cCf_init 63 = .ok (.new 34, 3) := by decide +kernel
theorem dCf_init_66 : decode cCf_init 66 = .ok (.dup, 1) := by decide +kernel
theorem dCf_init_67 : decode cCf_init 67 = .ok (.invokespecial 36, 3) := by decide +kernel
theorem dCf_init_70 : decode cCf_init 70 = .ok (.aastore, 1) := by decide +kernel
theorem dCf_init_71 : decode cCf_init 71 = .ok (.dup, 1) := by decide +kernel
theorem dCf_init_72 : decode cCf_init 72 = .ok (.iconst 4, 1) := by decide +kernel
theorem dCf_init_73 : decode cCf_init 73 = .ok (.new 37, 3) := by decide +kernel
theorem dCf_init_76 : decode cCf_init 76 = .ok (.dup, 1) := by decide +kernel
theorem dCf_init_77 : decode cCf_init 77 = .ok (.invokespecial 39, 3) := by decide +kernel
theorem dCf_init_80 : decode cCf_init 80 = .ok (.aastore, 1) := by decide +kernel
theorem dCf_init_81 : decode cCf_init 81 = .ok (.putfield 40, 3) := by decide +kernel
theorem dCf_init_84 : decode cCf_init 84 = .ok (.aload_n 0, 1) := by decide +kernel
theorem dCf_init_85 : decode cCf_init 85 = .ok (.iconst (-1), 1) := by decide +kernel
theorem dCf_init_86 : decode cCf_init 86 = .ok (.putfield 44, 3) := by decide +kernel
theorem dCf_init_89 : decode cCf_init 89 = .ok (.aload_n 0, 1) := by decide +kernel
theorem dCf_init_90 : decode cCf_init 90 = .ok (.iconst 0, 1) := by decide +kernel
theorem dCf_init_91 : decode cCf_init 91 = .ok (.putfield 48, 3) := by decide +kernel
theorem dCf_init_94 : decode cCf_init 94 = .ok (.return_, 1) := by decide +kernel
theorem dRo_init_0 : decode cRo_init 0 = .ok (.aload_n 0, 1) := by decide +kernel
theorem dRo_init_1 : decode cRo_init 1 = .ok (.invokespecial 3, 3) := by decide +kernel
theorem dRo_init_4 : decode cRo_init 4 = .ok (.aload_n 0, 1) := by decide +kernel
theorem dRo_init_5 : decode cRo_init 5 = .ok (.sipush 1024, 3) := by decide +kernel
theorem dRo_init_8 : decode cRo_init 8 = .ok (.newarray .long, 2) := by decide +kernel
theorem dRo_init_10 : decode cRo_init 10 = .ok (.putfield 9, 3) := by decide +kernel
theorem dRo_init_13 : decode cRo_init 13 = .ok (.aload_n 0, 1) := by decide +kernel
theorem dRo_init_14 : decode cRo_init 14 = .ok (.sipush 1024, 3) := by decide +kernel
theorem dRo_init_17 : decode cRo_init 17 = .ok (.newarray .long, 2) := by decide +kernel
theorem dRo_init_19 : decode cRo_init 19 = .ok (.putfield 15, 3) := by decide +kernel
theorem dRo_init_22 : decode cRo_init 22 = .ok (.return_, 1) := by decide +kernel
theorem dBy_init_0 : decode cBy_init 0 = .ok (.aload_n 0, 1) := by decide +kernel
theorem dBy_init_1 : decode cBy_init 1 = .ok (.invokespecial 3, 3) := by decide +kernel
theorem dBy_init_4 : decode cBy_init 4 = .ok (.aload_n 0, 1) := by decide +kernel
theorem dBy_init_5 : decode cBy_init 5 = .ok (.iconst 0, 1) := by decide +kernel
theorem dBy_init_6 : decode cBy_init 6 = .ok (.newarray .byte, 2) := by decide +kernel
theorem dBy_init_8 : decode cBy_init 8 = .ok (.putfield 9, 3) := by decide +kernel
theorem dBy_init_11 : decode cBy_init 11 = .ok (.return_, 1) := by decide +kernel
theorem dPl_init_0 : decode cPl_init 0 = .ok (.aload_n 0, 1) := by decide +kernel
theorem dPl_init_1 : decode cPl_init 1 = .ok (.invokespecial 1, 3) := by decide +kernel
theorem dPl_init_4 : decode cPl_init 4 = .ok (.return_, 1) := by decide +kernel
theorem dFo_init_0 : decode cFo_init 0 = .ok (.aload_n 0, 1) := by decide +kernel
theorem dFo_init_1 : decode cFo_init 1 = .ok (.invokespecial 1, 3) := by decide +kernel
theorem dFo_init_4 : decode cFo_init 4 = .ok (.return_, 1) := by decide +kernel
theorem dPa_init_0 : decode cPa_init 0 = .ok (.aload_n 0, 1) := by decide +kernel
theorem dPa_init_1 : decode cPa_init 1 = .ok (.invokespecial 1, 3) := by decide +kernel
theorem dPa_init_4 : decode cPa_init 4 = .ok (.return_, 1) := by decide +kernel
theorem dLi_init_0 : decode cLi_init 0 = .ok (.aload_n 0, 1) := by decide +kernel
theorem dLi_init_1 : decode cLi_init 1 = .ok (.invokespecial 3, 3) := by decide +kernel
theorem dLi_init_4 : decode cLi_init 4 = .ok (.aload_n 0, 1) := by decide +kernel
theorem dLi_init_5 : decode cLi_init 5 = .ok (.sipush 1024, 3) := by decide +kernel
theorem dLi_init_8 : decode cLi_init 8 = .ok (.newarray .int, 2) := by decide +kernel
theorem dLi_init_10 : decode cLi_init 10 = .ok (.putfield 9, 3) := by decide +kernel
theorem dLi_init_13 : decode cLi_init 13 = .ok (.return_, 1) := by decide +kernel
theorem dRu_init_0 : decode cRu_init 0 = .ok (.aload_n 0, 1) := by decide +kernel
theorem dRu_init_1 : decode cRu_init 1 = .ok (.invokespecial 1, 3) := by decide +kernel
theorem dRu_init_4 : decode cRu_init 4 = .ok (.return_, 1) := by decide +kernel
theorem dSs_init_0 : decode cSs_init 0 = .ok (.aload_n 0, 1) := by decide +kernel
theorem dSs_init_1 : decode cSs_init 1 = .ok (.invokespecial 1, 3) := by decide +kernel
theorem dSs_init_4 : decode cSs_init 4 = .ok (.return_, 1) := by decide +kernel
theorem dCf_clear_0 : decode cCf_clear 0 = .ok (.aload_n 0, 1) := by decide +kernel
theorem dCf_clear_1 : decode cCf_clear 1 = .ok (.getfield 10, 3) := by decide +kernel
theorem dCf_clear_4 : decode cCf_clear 4 = .ok (.getfield 51, 3) := by decide +kernel
theorem dCf_clear_7 : decode cCf_clear 7 = .ok (.istore_n 1, 1) := by decide +kernel
theorem dCf_clear_8 : decode cCf_clear 8 = .ok (.aload_n 0, 1) := by decide +kernel
theorem dCf_clear_9 : decode cCf_clear 9 = .ok (.getfield 10, 3) := by decide +kernel
theorem dCf_clear_12 : decode cCf_clear 12 = .ok (.invokevirtual 72, 3) := by decide +kernel
theorem dCf_clear_15 : decode cCf_clear 15 = .ok (.iload_n 1, 1) := by decide +kernel
theorem dCf_clear_16 : decode cCf_clear 16 = .ok (.ireturn, 1) := by decide +kernel
theorem dRo_empty_0 : decode cRo_empty 0 = .ok (.aload_n 0, 1) := by decide +kernel
theorem dRo_empty_1 : decode cRo_empty 1 = .ok (.iconst 0, 1) := by decide +kernel
theorem dRo_empty_2 : decode cRo_empty 2 = .ok (.putfield 18, 3) := by decide +kernel
theorem dRo_empty_5 : decode cRo_empty 5 = .ok (.aload_n 0, 1) := by decide +kernel
theorem dRo_empty_6 : decode cRo_empty 6 = .ok (.iconst 0, 1) := by decide +kernel
theorem dRo_empty_7 : decode cRo_empty 7 = .ok (.putfield 22, 3) := by decide +kernel
theorem dRo_empty_10 : decode cRo_empty 10 = .ok (.aload_n 0, 1) := by decide +kernel
theorem dRo_empty_11 : decode cRo_empty 11 = .ok (.iconst 0, 1) := by decide +kernel
theorem dRo_empty_12 : decode cRo_empty 12 = .ok (.putfield 29, 3) := by decide +kernel
theorem dRo_empty_15 : decode cRo_empty 15 = .ok (.return_, 1) := by decide +kernel
theorem dCf_form_0 : decode cCf_form 0 = .ok (.aload_n 0, 1) := by decide +kernel
theorem dCf_form_1 : decode cCf_form 1 = .ok (.getfield 44, 3) := by decide +kernel
theorem dCf_form_4 : decode cCf_form 4 = .ok (.ireturn, 1) := by decide +kernel
theorem dCf_size_0 : decode cCf_size 0 = .ok (.aload_n 0, 1) := by decide +kernel
theorem dCf_size_1 : decode cCf_size 1 = .ok (.getfield 19, 3) := by decide +kernel
theorem dCf_size_4 : decode cCf_size 4 = .ok (.invokevirtual 94, 3) := by decide +kernel
theorem dCf_size_7 : decode cCf_size 7 = .ok (.ireturn, 1) := by decide +kernel
theorem dBy_length_0 : decode cBy_length 0 = .ok (.aload_n 0, 1) := by decide +kernel
theorem dBy_length_1 : decode cBy_length 1 = .ok (.getfield 15, 3) := by decide +kernel
theorem dBy_length_4 : decode cBy_length 4 = .ok (.invokestatic 19, 3) := by decide +kernel
theorem dBy_length_7 : decode cBy_length 7 = .ok (.ireturn, 1) := by decide +kernel
theorem dCf_wholeBytes_0 : decode cCf_wholeBytes 0 = .ok (.iload_n 0, 1) := by decide +kernel
theorem dCf_wholeBytes_1 : decode cCf_wholeBytes 1 = .ok (.bipush 7, 2) := by decide +kernel
theorem dCf_wholeBytes_3 : decode cCf_wholeBytes 3 = .ok (.iadd, 1) := by decide +kernel
theorem dCf_wholeBytes_4 : decode cCf_wholeBytes 4 = .ok (.iconst 3, 1) := by decide +kernel
theorem dCf_wholeBytes_5 : decode cCf_wholeBytes 5 = .ok (.ishr, 1) := by decide +kernel
theorem dCf_wholeBytes_6 : decode cCf_wholeBytes 6 = .ok (.ireturn, 1) := by decide +kernel
theorem dCf_put_0 : decode cCf_put 0 = .ok (.aload_n 0, 1) := by decide +kernel
theorem dCf_put_1 : decode cCf_put 1 = .ok (.getfield 10, 3) := by decide +kernel
theorem dCf_put_4 : decode cCf_put 4 = .ok (.getfield 51, 3) := by decide +kernel
theorem dCf_put_7 : decode cCf_put 7 = .ok (.sipush 1024, 3) := by decide +kernel
theorem dCf_put_10 : decode cCf_put 10 = .ok (.if_icmp .lt 13, 3) := by decide +kernel
theorem dCf_put_13 : decode cCf_put 13 = .ok (.new 54, 3) := by decide +kernel
theorem dCf_put_16 : decode cCf_put 16 = .ok (.dup, 1) := by decide +kernel
theorem dCf_put_17 : decode cCf_put 17 = .ok (.ldc 56, 2) := by decide +kernel
theorem dCf_put_19 : decode cCf_put 19 = .ok (.invokespecial 58, 3) := by decide +kernel
theorem dCf_put_22 : decode cCf_put 22 = .ok (.athrow, 1) := by decide +kernel
theorem dCf_put_23 : decode cCf_put 23 = .ok (.aload_n 0, 1) := by decide +kernel
theorem dCf_put_24 : decode cCf_put 24 = .ok (.getfield 10, 3) := by decide +kernel
theorem dCf_put_27 : decode cCf_put 27 = .ok (.lload_n 1, 1) := by decide +kernel
theorem dCf_put_28 : decode cCf_put 28 = .ok (.invokevirtual 61, 3) := by decide +kernel
theorem dCf_put_31 : decode cCf_put 31 = .ok (.aload_n 0, 1) := by decide +kernel
theorem dCf_put_32 : decode cCf_put 32 = .ok (.getfield 10, 3) := by decide +kernel
theorem dCf_put_35 : decode cCf_put 35 = .ok (.getfield 51, 3) := by decide +kernel
theorem dCf_put_38 : decode cCf_put 38 = .ok (.ireturn, 1) := by decide +kernel
theorem dRo_add_0 : decode cRo_add 0 = .ok (.aload_n 0, 1) := by decide +kernel
theorem dRo_add_1 : decode cRo_add 1 = .ok (.getfield 18, 3) := by decide +kernel
theorem dRo_add_4 : decode cRo_add 4 = .ok (.sipush 1024, 3) := by decide +kernel
theorem dRo_add_7 : decode cRo_add 7 = .ok (.if_icmp .lt 4, 3) := by decide +kernel
theorem dRo_add_10 : decode cRo_add 10 = .ok (.return_, 1) := by decide +kernel
theorem dRo_add_11 : decode cRo_add 11 = .ok (.aload_n 0, 1) := by decide +kernel
theorem dRo_add_12 : decode cRo_add 12 = .ok (.getfield 18, 3) := by decide +kernel
theorem dRo_add_15 : decode cRo_add 15 = .ok (.ifCond .ne 11, 3) := by decide +kernel
theorem dRo_add_18 : decode cRo_add 18 = .ok (.aload_n 0, 1) := by decide +kernel
theorem dRo_add_19 : decode cRo_add 19 = .ok (.lload_n 1, 1) := by decide +kernel
theorem dRo_add_20 : decode cRo_add 20 = .ok (.invokevirtual 32, 3) := by decide +kernel
theorem dRo_add_23 : decode cRo_add 23 = .ok (.goto 20, 3) := by decide +kernel
theorem dRo_add_26 : decode cRo_add 26 = .ok (.aload_n 0, 1) := by decide +kernel
theorem dRo_add_27 : decode cRo_add 27 = .ok (.lload_n 1, 1) := by decide +kernel
theorem dRo_add_28 : decode cRo_add 28 = .ok (.lload_n 1, 1) := by decide +kernel
theorem dRo_add_29 : decode cRo_add 29 = .ok (.aload_n 0, 1) := by decide +kernel
theorem dRo_add_30 : decode cRo_add 30 = .ok (.aload_n 0, 1) := by decide +kernel
theorem dRo_add_31 : decode cRo_add 31 = .ok (.getfield 18, 3) := by decide +kernel
theorem dRo_add_34 : decode cRo_add 34 = .ok (.iconst 1, 1) := by decide +kernel
theorem dRo_add_35 : decode cRo_add 35 = .ok (.isub, 1) := by decide +kernel
theorem dRo_add_36 : decode cRo_add 36 = .ok (.invokevirtual 36, 3) := by decide +kernel
theorem dRo_add_39 : decode cRo_add 39 = .ok (.lsub, 1) := by decide +kernel
theorem dRo_add_40 : decode cRo_add 40 = .ok (.invokevirtual 39, 3) := by decide +kernel
theorem dRo_add_43 : decode cRo_add 43 = .ok (.aload_n 0, 1) := by decide +kernel
theorem dRo_add_44 : decode cRo_add 44 = .ok (.lload_n 1, 1) := by decide +kernel
theorem dRo_add_45 : decode cRo_add 45 = .ok (.aload_n 0, 1) := by decide +kernel
theorem dRo_add_46 : decode cRo_add 46 = .ok (.lload_n 1, 1) := by decide +kernel
theorem dRo_add_47 : decode cRo_add 47 = .ok (.invokevirtual 43, 3) := by decide +kernel
theorem dRo_add_50 : decode cRo_add 50 = .ok (.invokevirtual 47, 3) := by decide +kernel
theorem dRo_add_53 : decode cRo_add 53 = .ok (.aload_n 0, 1) := by decide +kernel
theorem dRo_add_54 : decode cRo_add 54 = .ok (.getfield 9, 3) := by decide +kernel
theorem dRo_add_57 : decode cRo_add 57 = .ok (.aload_n 0, 1) := by decide +kernel
theorem dRo_add_58 : decode cRo_add 58 = .ok (.getfield 18, 3) := by decide +kernel
theorem dRo_add_61 : decode cRo_add 61 = .ok (.lload_n 1, 1) := by decide +kernel
theorem dRo_add_62 : decode cRo_add 62 = .ok (.lastore, 1) := by decide +kernel
theorem dRo_add_63 : decode cRo_add 63 = .ok (.aload_n 0, 1) := by decide +kernel
theorem dRo_add_64 : decode cRo_add 64 = .ok (.dup, 1) := by decide +kernel
theorem dRo_add_65 : decode cRo_add 65 = .ok (.getfield 18, 3) := by decide +kernel
theorem dRo_add_68 : decode cRo_add 68 = .ok (.iconst 1, 1) := by decide +kernel
theorem dRo_add_69 : decode cRo_add 69 = .ok (.iadd, 1) := by decide +kernel
theorem dRo_add_70 : decode cRo_add 70 = .ok (.putfield 18, 3) := by decide +kernel
theorem dRo_add_73 : decode cRo_add 73 = .ok (.return_, 1) := by decide +kernel
theorem dRo_noteFirst_0 : decode cRo_noteFirst 0 = .ok (.aload_n 0, 1) := by decide +kernel
theorem dRo_noteFirst_1 : decode cRo_noteFirst 1 = .ok (.iconst 1, 1) := by decide +kernel
theorem dRo_noteFirst_2 : decode cRo_noteFirst 2 = .ok (.putfield 29, 3) := by decide +kernel
theorem dRo_noteFirst_5 : decode cRo_noteFirst 5 = .ok (.aload_n 0, 1) := by decide +kernel
theorem dRo_noteFirst_6 : decode cRo_noteFirst 6 = .ok (.lload_n 1, 1) := by decide +kernel
theorem dRo_noteFirst_7 : decode cRo_noteFirst 7 = .ok (.putfield 51, 3) := by decide +kernel
theorem dRo_noteFirst_10 : decode cRo_noteFirst 10 = .ok (.aload_n 0, 1) := by decide +kernel
theorem dRo_noteFirst_11 : decode cRo_noteFirst 11 = .ok (.lload_n 1, 1) := by decide +kernel
theorem dRo_noteFirst_12 : decode cRo_noteFirst 12 = .ok (.putfield 55, 3) := by decide +kernel
theorem dRo_noteFirst_15 : decode cRo_noteFirst 15 = .ok (.aload_n 0, 1) := by decide +kernel
theorem dRo_noteFirst_16 : decode cRo_noteFirst 16 = .ok (.lconst 0, 1) := by decide +kernel
theorem dRo_noteFirst_17 : decode cRo_noteFirst 17 = .ok (.putfield 58, 3) := by decide +kernel
theorem dRo_noteFirst_20 : decode cRo_noteFirst 20 = .ok (.aload_n 0, 1) := by decide +kernel
theorem dRo_noteFirst_21 : decode cRo_noteFirst 21 = .ok (.lconst 0, 1) := by decide +kernel
theorem dRo_noteFirst_22 : decode cRo_noteFirst 22 = .ok (.putfield 61, 3) := by decide +kernel
theorem dRo_noteFirst_25 : decode cRo_noteFirst 25 = .ok (.return_, 1) := by decide +kernel
theorem dRo_at_0 : decode cRo_at 0 = .ok (.iload_n 1, 1) := by decide +kernel
theorem dRo_at_1 : decode cRo_at 1 = .ok (.ifCond .lt 20, 3) := by decide +kernel
theorem dRo_at_4 : decode cRo_at 4 = .ok (.iload_n 1, 1) := by decide +kernel
theorem dRo_at_5 : decode cRo_at 5 = .ok (.aload_n 0, 1) := by decide +kernel
theorem dRo_at_6 : decode cRo_at 6 = .ok (.getfield 18, 3) := by decide +kernel
theorem dRo_at_9 : decode cRo_at 9 = .ok (.if_icmp .ge 12, 3) := by decide +kernel
theorem dRo_at_12 : decode cRo_at 12 = .ok (.aload_n 0, 1) := by decide +kernel
theorem dRo_at_13 : decode cRo_at 13 = .ok (.getfield 9, 3) := by decide +kernel
theorem dRo_at_16 : decode cRo_at 16 = .ok (.iload_n 1, 1) := by decide +kernel
theorem dRo_at_17 : decode cRo_at 17 = .ok (.laload, 1) := by decide +kernel
theorem dRo_at_18 : decode cRo_at 18 = .ok (.goto 4, 3) := by decide +kernel
theorem dRo_at_21 : decode cRo_at 21 = .ok (.lconst 0, 1) := by decide +kernel
theorem dRo_at_22 : decode cRo_at 22 = .ok (.lreturn, 1) := by decide +kernel
theorem dRo_noteNext_0 : decode cRo_noteNext 0 = .ok (.lload_n 3, 1) := by decide +kernel
theorem dRo_noteNext_1 : decode cRo_noteNext 1 = .ok (.lconst 0, 1) := by decide +kernel
theorem dRo_noteNext_2 : decode cRo_noteNext 2 = .ok (.lcmp, 1) := by decide +kernel
theorem dRo_noteNext_3 : decode cRo_noteNext 3 = .ok (.ifCond .eq 13, 3) := by decide +kernel
theorem dRo_noteNext_6 : decode cRo_noteNext 6 = .ok (.aload_n 0, 1) := by decide +kernel
theorem dRo_noteNext_7 : decode cRo_noteNext 7 = .ok (.dup, 1) := by decide +kernel
theorem dRo_noteNext_8 : decode cRo_noteNext 8 = .ok (.getfield 29, 3) := by decide +kernel
theorem dRo_noteNext_11 : decode cRo_noteNext 11 = .ok (.iconst 1, 1) := by decide +kernel
theorem dRo_noteNext_12 : decode cRo_noteNext 12 = .ok (.iadd, 1) := by decide +kernel
theorem dRo_noteNext_13 : decode cRo_noteNext 13 = .ok (.putfield 29, 3) := by decide +kernel
theorem dRo_noteNext_16 : decode cRo_noteNext 16 = .ok (.aload_n 0, 1) := by decide +kernel
theorem dRo_noteNext_17 : decode cRo_noteNext 17 = .ok (.aload_n 0, 1) := by decide +kernel
theorem dRo_noteNext_18 : decode cRo_noteNext 18 = .ok (.getfield 51, 3) := by decide +kernel
theorem dRo_noteNext_21 : decode cRo_noteNext 21 = .ok (.lload_n 1, 1) := by decide +kernel
theorem dRo_noteNext_22 : decode cRo_noteNext 22 = .ok (.invokestatic 64, 3) := by decide +kernel
theorem dRo_noteNext_25 : decode cRo_noteNext 25 = .ok (.putfield 51, 3) := by decide +kernel
theorem dRo_noteNext_28 : decode cRo_noteNext 28 = .ok (.aload_n 0, 1) := by decide +kernel
theorem dRo_noteNext_29 : decode cRo_noteNext 29 = .ok (.aload_n 0, 1) := by decide +kernel
theorem dRo_noteNext_30 : decode cRo_noteNext 30 = .ok (.getfield 55, 3) := by decide +kernel
theorem dRo_noteNext_33 : decode cRo_noteNext 33 = .ok (.lload_n 1, 1) := by decide +kernel
theorem dRo_noteNext_34 : decode cRo_noteNext 34 = .ok (.invokestatic 70, 3) := by decide +kernel
theorem dRo_noteNext_37 : decode cRo_noteNext 37 = .ok (.putfield 55, 3) := by decide +kernel
theorem dRo_noteNext_40 : decode cRo_noteNext 40 = .ok (.aload_n 0, 1) := by decide +kernel
theorem dRo_noteNext_41 : decode cRo_noteNext 41 = .ok (.aload_n 0, 1) := by decide +kernel
theorem dRo_noteNext_42 : decode cRo_noteNext 42 = .ok (.getfield 18, 3) := by decide +kernel
theorem dRo_noteNext_45 : decode cRo_noteNext 45 = .ok (.iconst 1, 1) := by decide +kernel
theorem dRo_noteNext_46 : decode cRo_noteNext 46 = .ok (.if_icmp .ne 7, 3) := by decide +kernel
theorem dRo_noteNext_49 : decode cRo_noteNext 49 = .ok (.lload_n 3, 1) := by decide +kernel
theorem dRo_noteNext_50 : decode cRo_noteNext 50 = .ok (.goto 11, 3) := by decide +kernel
theorem dRo_noteNext_53 : decode cRo_noteNext 53 = .ok (.aload_n 0, 1) := by decide +kernel
theorem dRo_noteNext_54 : decode cRo_noteNext 54 = .ok (.getfield 58, 3) := by decide +kernel
theorem dRo_noteNext_57 : decode cRo_noteNext 57 = .ok (.lload_n 3, 1) := by decide +kernel
theorem dRo_noteNext_58 : decode cRo_noteNext 58 = .ok (.invokestatic 64, 3) := by decide +kernel
theorem dRo_noteNext_61 : decode cRo_noteNext 61 = .ok (.putfield 58, 3) := by decide +kernel
theorem dRo_noteNext_64 : decode cRo_noteNext 64 = .ok (.aload_n 0, 1) := by decide +kernel
theorem dRo_noteNext_65 : decode cRo_noteNext 65 = .ok (.aload_n 0, 1) := by decide +kernel
theorem dRo_noteNext_66 : decode cRo_noteNext 66 = .ok (.getfield 18, 3) := by decide +kernel
theorem dRo_noteNext_69 : decode cRo_noteNext 69 = .ok (.iconst 1, 1) := by decide +kernel
theorem dRo_noteNext_70 : decode cRo_noteNext 70 = .ok (.if_icmp .ne 7, 3) := by decide +kernel
theorem dRo_noteNext_73 : decode cRo_noteNext 73 = .ok (.lload_n 3, 1) := by decide +kernel
theorem dRo_noteNext_74 : decode cRo_noteNext 74 = .ok (.goto 11, 3) := by decide +kernel
theorem dRo_noteNext_77 : decode cRo_noteNext 77 = .ok (.aload_n 0, 1) := by decide +kernel
theorem dRo_noteNext_78 : decode cRo_noteNext 78 = .ok (.getfield 61, 3) := by decide +kernel
theorem dRo_noteNext_81 : decode cRo_noteNext 81 = .ok (.lload_n 3, 1) := by decide +kernel
theorem dRo_noteNext_82 : decode cRo_noteNext 82 = .ok (.invokestatic 70, 3) := by decide +kernel
theorem dRo_noteNext_85 : decode cRo_noteNext 85 = .ok (.putfield 61, 3) := by decide +kernel
theorem dRo_noteNext_88 : decode cRo_noteNext 88 = .ok (.return_, 1) := by decide +kernel
theorem dRo_placeOf_0 : decode cRo_placeOf 0 = .ok (.iconst 0, 1) := by decide +kernel
theorem dRo_placeOf_1 : decode cRo_placeOf 1 = .ok (.istore_n 3, 1) := by decide +kernel
theorem dRo_placeOf_2 : decode cRo_placeOf 2 = .ok (.sipush 1024, 3) := by decide +kernel
theorem dRo_placeOf_5 : decode cRo_placeOf 5 = .ok (.istore 4, 2) := by decide +kernel
theorem dRo_placeOf_7 : decode cRo_placeOf 7 = .ok (.iload 4, 2) := by decide +kernel
theorem dRo_placeOf_9 : decode cRo_placeOf 9 = .ok (.ifCond .le 43, 3) := by decide +kernel
theorem dRo_placeOf_12 : decode cRo_placeOf 12 = .ok (.iload_n 3, 1) := by decide +kernel
theorem dRo_placeOf_13 : decode cRo_placeOf 13 = .ok (.iload 4, 2) := by decide +kernel
theorem dRo_placeOf_15 : decode cRo_placeOf 15 = .ok (.iadd, 1) := by decide +kernel
theorem dRo_placeOf_16 : decode cRo_placeOf 16 = .ok (.aload_n 0, 1) := by decide +kernel
theorem dRo_placeOf_17 : decode cRo_placeOf 17 = .ok (.getfield 22, 3) := by decide +kernel
theorem dRo_placeOf_20 : decode cRo_placeOf 20 = .ok (.if_icmp .gt 23, 3) := by decide +kernel
theorem dRo_placeOf_23 : decode cRo_placeOf 23 = .ok (.aload_n 0, 1) := by decide +kernel
theorem dRo_placeOf_24 : decode cRo_placeOf 24 = .ok (.iload_n 3, 1) := by decide +kernel
theorem dRo_placeOf_25 : decode cRo_placeOf 25 = .ok (.iload 4, 2) := by decide +kernel
theorem dRo_placeOf_27 : decode cRo_placeOf 27 = .ok (.iadd, 1) := by decide +kernel
theorem dRo_placeOf_28 : decode cRo_placeOf 28 = .ok (.iconst 1, 1) := by decide +kernel
theorem dRo_placeOf_29 : decode cRo_placeOf 29 = .ok (.isub, 1) := by decide +kernel
theorem dRo_placeOf_30 : decode cRo_placeOf 30 = .ok (.invokevirtual 25, 3) := by decide +kernel
theorem dRo_placeOf_33 : decode cRo_placeOf 33 = .ok (.lload_n 1, 1) := by decide +kernel
theorem dRo_placeOf_34 : decode cRo_placeOf 34 = .ok (.lcmp, 1) := by decide +kernel
theorem dRo_placeOf_35 : decode cRo_placeOf 35 = .ok (.ifCond .ge 8, 3) := by decide +kernel
theorem dRo_placeOf_38 : decode cRo_placeOf 38 = .ok (.iload_n 3, 1) := by decide +kernel
theorem dRo_placeOf_39 : decode cRo_placeOf 39 = .ok (.iload 4, 2) := by decide +kernel
theorem dRo_placeOf_41 : decode cRo_placeOf 41 = .ok (.iadd, 1) := by decide +kernel
theorem dRo_placeOf_42 : decode cRo_placeOf 42 = .ok (.istore_n 3, 1) := by decide +kernel
theorem dRo_placeOf_43 : decode cRo_placeOf 43 = .ok (.iload 4, 2) := by decide +kernel
theorem dRo_placeOf_45 : decode cRo_placeOf 45 = .ok (.iconst 1, 1) := by decide +kernel
theorem dRo_placeOf_46 : decode cRo_placeOf 46 = .ok (.ishr, 1) := by decide +kernel
theorem dRo_placeOf_47 : decode cRo_placeOf 47 = .ok (.istore 4, 2) := by decide +kernel
theorem dRo_placeOf_49 : decode cRo_placeOf 49 = .ok (.goto (-42), 3) := by decide +kernel
theorem dRo_placeOf_52 : decode cRo_placeOf 52 = .ok (.iload_n 3, 1) := by decide +kernel
theorem dRo_placeOf_53 : decode cRo_placeOf 53 = .ok (.ireturn, 1) := by decide +kernel
theorem dRo_differentAt_0 : decode cRo_differentAt 0 = .ok (.iload_n 1, 1) := by decide +kernel
theorem dRo_differentAt_1 : decode cRo_differentAt 1 = .ok (.ifCond .lt 20, 3) := by decide +kernel
theorem dRo_differentAt_4 : decode cRo_differentAt 4 = .ok (.iload_n 1, 1) := by decide +kernel
theorem dRo_differentAt_5 : decode cRo_differentAt 5 = .ok (.aload_n 0, 1) := by decide +kernel
theorem dRo_differentAt_6 : decode cRo_differentAt 6 = .ok (.getfield 22, 3) := by decide +kernel
theorem dRo_differentAt_9 : decode cRo_differentAt 9 = .ok (.if_icmp .ge 12, 3) := by decide +kernel
theorem dRo_differentAt_12 : decode cRo_differentAt 12 = .ok (.aload_n 0, 1) := by decide +kernel
theorem dRo_differentAt_13 : decode cRo_differentAt 13 = .ok (.getfield 15, 3) := by decide +kernel
theorem dRo_differentAt_16 : decode cRo_differentAt 16 = .ok (.iload_n 1, 1) := by decide +kernel
theorem dRo_differentAt_17 : decode cRo_differentAt 17 = .ok (.laload, 1) := by decide +kernel
theorem dRo_differentAt_18 : decode cRo_differentAt 18 = .ok (.goto 4, 3) := by decide +kernel
theorem dRo_differentAt_21 : decode cRo_differentAt 21 = .ok (.lconst 0, 1) := by decide +kernel
theorem dRo_differentAt_22 : decode cRo_differentAt 22 = .ok (.lreturn, 1) := by decide +kernel
theorem dRo_noteDifferent_0 : decode cRo_noteDifferent 0 = .ok (.iload_n 3, 1) := by decide +kernel
theorem dRo_noteDifferent_1 : decode cRo_noteDifferent 1 = .ok (.aload_n 0, 1) := by decide +kernel
theorem dRo_noteDifferent_2 : decode cRo_noteDifferent 2 = .ok (.getfield 22, 3) := by decide +kernel
theorem dRo_noteDifferent_5 : decode cRo_noteDifferent 5 = .ok (.if_icmp .ge 17, 3) := by decide +kernel
theorem dRo_noteDifferent_8 : decode cRo_noteDifferent 8 = .ok (.aload_n 0, 1) := by decide +kernel
theorem dRo_noteDifferent_9 : decode cRo_noteDifferent 9 = .ok (.iload_n 3, 1) := by decide +kernel
theorem dRo_noteDifferent_10 : decode cRo_noteDifferent 10 = .ok (.invokevirtual 25, 3) := by decide +kernel
theorem dRo_noteDifferent_13 : decode cRo_noteDifferent 13 = .ok (.lload_n 1, 1) := by decide +kernel
theorem dRo_noteDifferent_14 : decode cRo_noteDifferent 14 = .ok (.lcmp, 1) := by decide +kernel
theorem dRo_noteDifferent_15 : decode cRo_noteDifferent 15 = .ok (.ifCond .ne 7, 3) := by decide +kernel
theorem dRo_noteDifferent_18 : decode cRo_noteDifferent 18 = .ok (.iconst 1, 1) := by decide +kernel
theorem dRo_noteDifferent_19 : decode cRo_noteDifferent 19 = .ok (.goto 4, 3) := by decide +kernel
theorem dRo_noteDifferent_22 : decode cRo_noteDifferent 22 = .ok (.iconst 0, 1) := by decide +kernel
theorem dRo_noteDifferent_23 : decode cRo_noteDifferent 23 = .ok (.istore 4, 2) := by decide +kernel
theorem dRo_noteDifferent_25 : decode cRo_noteDifferent 25 = .ok (.iload 4, 2) := by decide +kernel
theorem dRo_noteDifferent_27 : decode cRo_noteDifferent 27 = .ok (.ifCond .ne 25, 3) := by decide +kernel
theorem dRo_noteDifferent_30 : decode cRo_noteDifferent 30 = .ok (.iload_n 3, 1) := by decide +kernel
theorem dRo_noteDifferent_31 : decode cRo_noteDifferent 31 = .ok (.ifCond .lt 21, 3) := by decide +kernel
theorem dRo_noteDifferent_34 : decode cRo_noteDifferent 34 = .ok (.iload_n 3, 1) := by decide +kernel
theorem dRo_noteDifferent_35 : decode cRo_noteDifferent 35 = .ok (.aload_n 0, 1) := by decide +kernel
theorem dRo_noteDifferent_36 : decode cRo_noteDifferent 36 = .ok (.getfield 22, 3) := by decide +kernel
theorem dRo_noteDifferent_39 : decode cRo_noteDifferent 39 = .ok (.if_icmp .gt 13, 3) := by decide +kernel
theorem dRo_noteDifferent_42 : decode cRo_noteDifferent 42 = .ok (.aload_n 0, 1) := by decide +kernel
theorem dRo_noteDifferent_43 : decode cRo_noteDifferent 43 = .ok (.getfield 22, 3) := by decide +kernel
theorem dRo_noteDifferent_46 : decode cRo_noteDifferent 46 = .ok (.sipush 1024, 3) := by decide +kernel
theorem dRo_noteDifferent_49 : decode cRo_noteDifferent 49 = .ok (.if_icmp .lt 4, 3) := by decide +kernel
theorem dRo_noteDifferent_52 : decode cRo_noteDifferent 52 = .ok (.return_, 1) := by decide +kernel
theorem dRo_noteDifferent_53 : decode cRo_noteDifferent 53 = .ok (.aload_n 0, 1) := by decide +kernel
theorem dRo_noteDifferent_54 : decode cRo_noteDifferent 54 = .ok (.getfield 15, 3) := by decide +kernel
theorem dRo_noteDifferent_57 : decode cRo_noteDifferent 57 = .ok (.iload_n 3, 1) := by decide +kernel
theorem dRo_noteDifferent_58 : decode cRo_noteDifferent 58 = .ok (.aload_n 0, 1) := by decide +kernel
theorem dRo_noteDifferent_59 : decode cRo_noteDifferent 59 = .ok (.getfield 15, 3) := by decide +kernel
theorem dRo_noteDifferent_62 : decode cRo_noteDifferent 62 = .ok (.iload_n 3, 1) := by decide +kernel
theorem dRo_noteDifferent_63 : decode cRo_noteDifferent 63 = .ok (.iconst 1, 1) := by decide +kernel
theorem dRo_noteDifferent_64 : decode cRo_noteDifferent 64 = .ok (.iadd, 1) := by decide +kernel
theorem dRo_noteDifferent_65 : decode cRo_noteDifferent 65 = .ok (.aload_n 0, 1) := by decide +kernel
theorem dRo_noteDifferent_66 : decode cRo_noteDifferent 66 = .ok (.getfield 22, 3) := by decide +kernel
theorem dRo_noteDifferent_69 : decode cRo_noteDifferent 69 = .ok (.iload_n 3, 1) := by decide +kernel
theorem dRo_noteDifferent_70 : decode cRo_noteDifferent 70 = .ok (.isub, 1) := by decide +kernel
theorem dRo_noteDifferent_71 : decode cRo_noteDifferent 71 = .ok (.invokestatic 73, 3) := by decide +kernel
theorem dRo_noteDifferent_74 : decode cRo_noteDifferent 74 = .ok (.aload_n 0, 1) := by decide +kernel
theorem dRo_noteDifferent_75 : decode cRo_noteDifferent 75 = .ok (.getfield 15, 3) := by decide +kernel
theorem dRo_noteDifferent_78 : decode cRo_noteDifferent 78 = .ok (.iload_n 3, 1) := by decide +kernel
theorem dRo_noteDifferent_79 : decode cRo_noteDifferent 79 = .ok (.lload_n 1, 1) := by decide +kernel
theorem dRo_noteDifferent_80 : decode cRo_noteDifferent 80 = .ok (.lastore, 1) := by decide +kernel
theorem dRo_noteDifferent_81 : decode cRo_noteDifferent 81 = .ok (.aload_n 0, 1) := by decide +kernel
theorem dRo_noteDifferent_82 : decode cRo_noteDifferent 82 = .ok (.dup, 1) := by decide +kernel
theorem dRo_noteDifferent_83 : decode cRo_noteDifferent 83 = .ok (.getfield 22, 3) := by decide +kernel
theorem dRo_noteDifferent_86 : decode cRo_noteDifferent 86 = .ok (.iconst 1, 1) := by decide +kernel
theorem dRo_noteDifferent_87 : decode cRo_noteDifferent 87 = .ok (.iadd, 1) := by decide +kernel
theorem dRo_noteDifferent_88 : decode cRo_noteDifferent 88 = .ok (.putfield 22, 3) := by decide +kernel
theorem dRo_noteDifferent_91 : decode cRo_noteDifferent 91 = .ok (.return_, 1) := by decide +kernel
theorem dCf_fill_0 : decode cCf_fill 0 = .ok (.iload 5, 2) := by decide +kernel
theorem dCf_fill_2 : decode cCf_fill 2 = .ok (.iconst 1, 1) := by decide +kernel
theorem dCf_fill_3 : decode cCf_fill 3 = .ok (.if_icmp .lt 11, 3) := by decide +kernel
theorem dCf_fill_6 : decode cCf_fill 6 = .ok (.iload 5, 2) := by decide +kernel
theorem dCf_fill_8 : decode cCf_fill 8 = .ok (.sipush 1024, 3) := by decide +kernel
theorem dCf_fill_11 : decode cCf_fill 11 = .ok (.if_icmp .le 13, 3) := by decide +kernel
theorem dCf_fill_14 : decode cCf_fill 14 = .ok (.new 65, 3) := by decide +kernel
theorem dCf_fill_17 : decode cCf_fill 17 = .ok (.dup, 1) := by decide +kernel
theorem dCf_fill_18 : decode cCf_fill 18 = .ok (.ldc 67, 2) := by decide +kernel
theorem dCf_fill_20 : decode cCf_fill 20 = .ok (.invokespecial 69, 3) := by decide +kernel
theorem dCf_fill_23 : decode cCf_fill 23 = .ok (.athrow, 1) := by decide +kernel
theorem dCf_fill_24 : decode cCf_fill 24 = .ok (.iload 5, 2) := by decide +kernel
theorem dCf_fill_26 : decode cCf_fill 26 = .ok (.sipush 1024, 3) := by decide +kernel
theorem dCf_fill_29 : decode cCf_fill 29 = .ok (.aload_n 0, 1) := by decide +kernel
theorem dCf_fill_30 : decode cCf_fill 30 = .ok (.getfield 10, 3) := by decide +kernel
theorem dCf_fill_33 : decode cCf_fill 33 = .ok (.getfield 51, 3) := by decide +kernel
theorem dCf_fill_36 : decode cCf_fill 36 = .ok (.isub, 1) := by decide +kernel
theorem dCf_fill_37 : decode cCf_fill 37 = .ok (.if_icmp .le 13, 3) := by decide +kernel
theorem dCf_fill_40 : decode cCf_fill 40 = .ok (.new 54, 3) := by decide +kernel
theorem dCf_fill_43 : decode cCf_fill 43 = .ok (.dup, 1) := by decide +kernel
theorem dCf_fill_44 : decode cCf_fill 44 = .ok (.ldc 70, 2) := by decide +kernel
theorem dCf_fill_46 : decode cCf_fill 46 = .ok (.invokespecial 58, 3) := by decide +kernel
theorem dCf_fill_49 : decode cCf_fill 49 = .ok (.athrow, 1) := by decide +kernel
theorem dCf_fill_50 : decode cCf_fill 50 = .ok (.lload_n 1, 1) := by decide +kernel
theorem dCf_fill_51 : decode cCf_fill 51 = .ok (.lstore 6, 2) := by decide +kernel
theorem dCf_fill_53 : decode cCf_fill 53 = .ok (.iconst 0, 1) := by decide +kernel
theorem dCf_fill_54 : decode cCf_fill 54 = .ok (.istore 8, 2) := by decide +kernel
theorem dCf_fill_56 : decode cCf_fill 56 = .ok (.iload 8, 2) := by decide +kernel
theorem dCf_fill_58 : decode cCf_fill 58 = .ok (.iload 5, 2) := by decide +kernel
theorem dCf_fill_60 : decode cCf_fill 60 = .ok (.if_icmp .ge 24, 3) := by decide +kernel
theorem dCf_fill_63 : decode cCf_fill 63 = .ok (.aload_n 0, 1) := by decide +kernel
theorem dCf_fill_64 : decode cCf_fill 64 = .ok (.getfield 10, 3) := by decide +kernel
theorem dCf_fill_67 : decode cCf_fill 67 = .ok (.lload 6, 2) := by decide +kernel
theorem dCf_fill_69 : decode cCf_fill 69 = .ok (.invokevirtual 61, 3) := by decide +kernel
theorem dCf_fill_72 : decode cCf_fill 72 = .ok (.lload 6, 2) := by decide +kernel
theorem dCf_fill_74 : decode cCf_fill 74 = .ok (.lload_n 3, 1) := by decide +kernel
theorem dCf_fill_75 : decode cCf_fill 75 = .ok (.ladd, 1) := by decide +kernel
theorem dCf_fill_76 : decode cCf_fill 76 = .ok (.lstore 6, 2) := by decide +kernel
theorem dCf_fill_78 : decode cCf_fill 78 = .ok (.iinc 8 1, 3) := by decide +kernel
theorem dCf_fill_81 : decode cCf_fill 81 = .ok (.goto (-25), 3) := by decide +kernel
theorem dCf_fill_84 : decode cCf_fill 84 = .ok (.aload_n 0, 1) := by decide +kernel
theorem dCf_fill_85 : decode cCf_fill 85 = .ok (.getfield 10, 3) := by decide +kernel
theorem dCf_fill_88 : decode cCf_fill 88 = .ok (.getfield 51, 3) := by decide +kernel
theorem dCf_fill_91 : decode cCf_fill 91 = .ok (.ireturn, 1) := by decide +kernel
theorem dCf_weight_0 : decode cCf_weight 0 = .ok (.iload_n 1, 1) := by decide +kernel
theorem dCf_weight_1 : decode cCf_weight 1 = .ok (.invokestatic 75, 3) := by decide +kernel
theorem dCf_weight_4 : decode cCf_weight 4 = .ok (.aload_n 0, 1) := by decide +kernel
theorem dCf_weight_5 : decode cCf_weight 5 = .ok (.invokevirtual 79, 3) := by decide +kernel
theorem dCf_weight_8 : decode cCf_weight 8 = .ok (.aload_n 0, 1) := by decide +kernel
theorem dCf_weight_9 : decode cCf_weight 9 = .ok (.getfield 40, 3) := by decide +kernel
theorem dCf_weight_12 : decode cCf_weight 12 = .ok (.iload_n 1, 1) := by decide +kernel
theorem dCf_weight_13 : decode cCf_weight 13 = .ok (.aaload, 1) := by decide +kernel
theorem dCf_weight_14 : decode cCf_weight 14 = .ok (.aload_n 0, 1) := by decide +kernel
theorem dCf_weight_15 : decode cCf_weight 15 = .ok (.getfield 10, 3) := by decide +kernel
theorem dCf_weight_18 : decode cCf_weight 18 = .ok (.invokevirtual 82, 3) := by decide +kernel
theorem dCf_weight_21 : decode cCf_weight 21 = .ok (.ireturn, 1) := by decide +kernel
theorem dCf_refuseUnknownForm_0 : decode cCf_refuseUnknownForm 0 = .ok (.iload_n 0, 1) := by decide +kernel
theorem dCf_refuseUnknownForm_1 : decode cCf_refuseUnknownForm 1 = .ok (.ifCond .lt 8, 3) := by decide +kernel
theorem dCf_refuseUnknownForm_4 : decode cCf_refuseUnknownForm 4 = .ok (.iload_n 0, 1) := by decide +kernel
theorem dCf_refuseUnknownForm_5 : decode cCf_refuseUnknownForm 5 = .ok (.iconst 5, 1) := by decide +kernel
theorem dCf_refuseUnknownForm_6 : decode cCf_refuseUnknownForm 6 = .ok (.if_icmp .lt 13, 3) := by decide +kernel
theorem dCf_refuseUnknownForm_9 : decode cCf_refuseUnknownForm 9 = .ok (.new 65, 3) := by decide +kernel
theorem dCf_refuseUnknownForm_12 : decode cCf_refuseUnknownForm 12 = .ok (.dup, 1) := by decide +kernel
theorem dCf_refuseUnknownForm_13 : decode cCf_refuseUnknownForm 13 = .ok (.ldc 128, 2) := by decide +kernel
theorem dCf_refuseUnknownForm_15 : decode cCf_refuseUnknownForm 15 = .ok (.invokespecial 69, 3) := by decide +kernel
theorem dCf_refuseUnknownForm_18 : decode cCf_refuseUnknownForm 18 = .ok (.athrow, 1) := by decide +kernel
theorem dCf_refuseUnknownForm_19 : decode cCf_refuseUnknownForm 19 = .ok (.return_, 1) := by decide +kernel
theorem dCf_refuseEmptyRow_0 : decode cCf_refuseEmptyRow 0 = .ok (.aload_n 0, 1) := by decide +kernel
theorem dCf_refuseEmptyRow_1 : decode cCf_refuseEmptyRow 1 = .ok (.getfield 10, 3) := by decide +kernel
theorem dCf_refuseEmptyRow_4 : decode cCf_refuseEmptyRow 4 = .ok (.getfield 51, 3) := by decide +kernel
end
section
theorem dCf_refuseEmptyRow_7 : decode cCf_refuseEmptyRow 7 = .ok (.ifCond .ne 13, 3) := by decide +kernel
theorem dCf_refuseEmptyRow_10 : decode cCf_refuseEmptyRow 10 = .ok (.new 54, 3) := by decide +kernel
theorem dCf_refuseEmptyRow_13 : decode cCf_refuseEmptyRow 13 = .ok (.dup, 1) := by decide +kernel
theorem dCf_refuseEmptyRow_14 : decode cCf_refuseEmptyRow 14 = .ok (.ldc 130, 2) := by decide +kernel
theorem dCf_refuseEmptyRow_16 : decode cCf_refuseEmptyRow 16 = .ok (.invokespecial 58, 3) := by decide +kernel
theorem dCf_refuseEmptyRow_19 : decode cCf_refuseEmptyRow 19 = .ok (.athrow, 1) := by decide +kernel
theorem dCf_refuseEmptyRow_20 : decode cCf_refuseEmptyRow 20 = .ok (.return_, 1) := by decide +kernel
theorem dLi_weigh_0 : decode cLi_weigh 0 = .ok (.aload_n 1, 1) := by decide +kernel
theorem dLi_weigh_1 : decode cLi_weigh 1 = .ok (.getfield 15, 3) := by decide +kernel
theorem dLi_weigh_4 : decode cLi_weigh 4 = .ok (.invokestatic 21, 3) := by decide +kernel
theorem dLi_weigh_7 : decode cLi_weigh 7 = .ok (.aload_n 1, 1) := by decide +kernel
theorem dLi_weigh_8 : decode cLi_weigh 8 = .ok (.getfield 25, 3) := by decide +kernel
theorem dLi_weigh_11 : decode cLi_weigh 11 = .ok (.aload_n 1, 1) := by decide +kernel
theorem dLi_weigh_12 : decode cLi_weigh 12 = .ok (.getfield 15, 3) := by decide +kernel
theorem dLi_weigh_15 : decode cLi_weigh 15 = .ok (.iconst 1, 1) := by decide +kernel
theorem dLi_weigh_16 : decode cLi_weigh 16 = .ok (.isub, 1) := by decide +kernel
theorem dLi_weigh_17 : decode cLi_weigh 17 = .ok (.i2l, 1) := by decide +kernel
theorem dLi_weigh_18 : decode cLi_weigh 18 = .ok (.invokestatic 28, 3) := by decide +kernel
theorem dLi_weigh_21 : decode cLi_weigh 21 = .ok (.imul, 1) := by decide +kernel
theorem dLi_weigh_22 : decode cLi_weigh 22 = .ok (.iadd, 1) := by decide +kernel
theorem dLi_weigh_23 : decode cLi_weigh 23 = .ok (.invokestatic 32, 3) := by decide +kernel
theorem dLi_weigh_26 : decode cLi_weigh 26 = .ok (.ireturn, 1) := by decide +kernel
theorem dLi_placesFrom_0 : decode cLi_placesFrom 0 = .ok (.bipush 16, 2) := by decide +kernel
theorem dLi_placesFrom_2 : decode cLi_placesFrom 2 = .ok (.bipush 64, 2) := by decide +kernel
theorem dLi_placesFrom_4 : decode cLi_placesFrom 4 = .ok (.iload_n 0, 1) := by decide +kernel
theorem dLi_placesFrom_5 : decode cLi_placesFrom 5 = .ok (.imul, 1) := by decide +kernel
theorem dLi_placesFrom_6 : decode cLi_placesFrom 6 = .ok (.iadd, 1) := by decide +kernel
theorem dLi_placesFrom_7 : decode cLi_placesFrom 7 = .ok (.ireturn, 1) := by decide +kernel
theorem dCf_bits_0 : decode cCf_bits 0 = .ok (.bipush 64, 2) := by decide +kernel
theorem dCf_bits_2 : decode cCf_bits 2 = .ok (.lload_n 0, 1) := by decide +kernel
theorem dCf_bits_3 : decode cCf_bits 3 = .ok (.invokestatic 141, 3) := by decide +kernel
theorem dCf_bits_6 : decode cCf_bits 6 = .ok (.isub, 1) := by decide +kernel
theorem dCf_bits_7 : decode cCf_bits 7 = .ok (.ireturn, 1) := by decide +kernel
theorem dJL_numberOfLeadingZeros_0 : decode cJL_numberOfLeadingZeros 0 = .ok (.lload_n 0, 1) := by decide +kernel
theorem dJL_numberOfLeadingZeros_1 : decode cJL_numberOfLeadingZeros 1 = .ok (.bipush 32, 2) := by decide +kernel
theorem dJL_numberOfLeadingZeros_3 : decode cJL_numberOfLeadingZeros 3 = .ok (.lushr, 1) := by decide +kernel
theorem dJL_numberOfLeadingZeros_4 : decode cJL_numberOfLeadingZeros 4 = .ok (.l2i, 1) := by decide +kernel
theorem dJL_numberOfLeadingZeros_5 : decode cJL_numberOfLeadingZeros 5 = .ok (.istore_n 2, 1) := by decide +kernel
theorem dJL_numberOfLeadingZeros_6 : decode cJL_numberOfLeadingZeros 6 = .ok (.iload_n 2, 1) := by decide +kernel
theorem dJL_numberOfLeadingZeros_7 : decode cJL_numberOfLeadingZeros 7 = .ok (.ifCond .ne 14, 3) := by decide +kernel
theorem dJL_numberOfLeadingZeros_10 : decode cJL_numberOfLeadingZeros 10 = .ok (.bipush 32, 2) := by decide +kernel
theorem dJL_numberOfLeadingZeros_12 : decode cJL_numberOfLeadingZeros 12 = .ok (.lload_n 0, 1) := by decide +kernel
theorem dJL_numberOfLeadingZeros_13 : decode cJL_numberOfLeadingZeros 13 = .ok (.l2i, 1) := by decide +kernel
theorem dJL_numberOfLeadingZeros_14 : decode cJL_numberOfLeadingZeros 14 = .ok (.invokestatic 308, 3) := by decide +kernel
theorem dJL_numberOfLeadingZeros_17 : decode cJL_numberOfLeadingZeros 17 = .ok (.iadd, 1) := by decide +kernel
theorem dJL_numberOfLeadingZeros_18 : decode cJL_numberOfLeadingZeros 18 = .ok (.goto 7, 3) := by decide +kernel
theorem dJL_numberOfLeadingZeros_21 : decode cJL_numberOfLeadingZeros 21 = .ok (.iload_n 2, 1) := by decide +kernel
theorem dJL_numberOfLeadingZeros_22 : decode cJL_numberOfLeadingZeros 22 = .ok (.invokestatic 308, 3) := by decide +kernel
theorem dJL_numberOfLeadingZeros_25 : decode cJL_numberOfLeadingZeros 25 = .ok (.ireturn, 1) := by decide +kernel
theorem dJI_numberOfLeadingZeros_0 : decode cJI_numberOfLeadingZeros 0 = .ok (.iload_n 0, 1) := by decide +kernel
theorem dJI_numberOfLeadingZeros_1 : decode cJI_numberOfLeadingZeros 1 = .ok (.ifCond .gt 14, 3) := by decide +kernel
theorem dJI_numberOfLeadingZeros_4 : decode cJI_numberOfLeadingZeros 4 = .ok (.iload_n 0, 1) := by decide +kernel
theorem dJI_numberOfLeadingZeros_5 : decode cJI_numberOfLeadingZeros 5 = .ok (.ifCond .ne 8, 3) := by decide +kernel
theorem dJI_numberOfLeadingZeros_8 : decode cJI_numberOfLeadingZeros 8 = .ok (.bipush 32, 2) := by decide +kernel
theorem dJI_numberOfLeadingZeros_10 : decode cJI_numberOfLeadingZeros 10 = .ok (.goto 4, 3) := by decide +kernel
theorem dJI_numberOfLeadingZeros_13 : decode cJI_numberOfLeadingZeros 13 = .ok (.iconst 0, 1) := by decide +kernel
theorem dJI_numberOfLeadingZeros_14 : decode cJI_numberOfLeadingZeros 14 = .ok (.ireturn, 1) := by decide +kernel
theorem dJI_numberOfLeadingZeros_15 : decode cJI_numberOfLeadingZeros 15 = .ok (.bipush 31, 2) := by decide +kernel
theorem dJI_numberOfLeadingZeros_17 : decode cJI_numberOfLeadingZeros 17 = .ok (.istore_n 1, 1) := by decide +kernel
theorem dJI_numberOfLeadingZeros_18 : decode cJI_numberOfLeadingZeros 18 = .ok (.iload_n 0, 1) := by decide +kernel
theorem dJI_numberOfLeadingZeros_19 : decode cJI_numberOfLeadingZeros 19 = .ok (.ldc_w 264, 3) := by decide +kernel
theorem dJI_numberOfLeadingZeros_22 : decode cJI_numberOfLeadingZeros 22 = .ok (.if_icmp .lt 11, 3) := by decide +kernel
theorem dJI_numberOfLeadingZeros_25 : decode cJI_numberOfLeadingZeros 25 = .ok (.iinc 1 (-16), 3) := by decide +kernel
theorem dJI_numberOfLeadingZeros_28 : decode cJI_numberOfLeadingZeros 28 = .ok (.iload_n 0, 1) := by decide +kernel
theorem dJI_numberOfLeadingZeros_29 : decode cJI_numberOfLeadingZeros 29 = .ok (.bipush 16, 2) := by decide +kernel
theorem dJI_numberOfLeadingZeros_31 : decode cJI_numberOfLeadingZeros 31 = .ok (.iushr, 1) := by decide +kernel
theorem dJI_numberOfLeadingZeros_32 : decode cJI_numberOfLeadingZeros 32 = .ok (.istore_n 0, 1) := by decide +kernel
theorem dJI_numberOfLeadingZeros_33 : decode cJI_numberOfLeadingZeros 33 = .ok (.iload_n 0, 1) := by decide +kernel
theorem dJI_numberOfLeadingZeros_34 : decode cJI_numberOfLeadingZeros 34 = .ok (.sipush 256, 3) := by decide +kernel
theorem dJI_numberOfLeadingZeros_37 : decode cJI_numberOfLeadingZeros 37 = .ok (.if_icmp .lt 11, 3) := by decide +kernel
theorem dJI_numberOfLeadingZeros_40 : decode cJI_numberOfLeadingZeros 40 = .ok (.iinc 1 (-8), 3) := by decide +kernel
theorem dJI_numberOfLeadingZeros_43 : decode cJI_numberOfLeadingZeros 43 = .ok (.iload_n 0, 1) := by decide +kernel
theorem dJI_numberOfLeadingZeros_44 : decode cJI_numberOfLeadingZeros 44 = .ok (.bipush 8, 2) := by decide +kernel
theorem dJI_numberOfLeadingZeros_46 : decode cJI_numberOfLeadingZeros 46 = .ok (.iushr, 1) := by decide +kernel
theorem dJI_numberOfLeadingZeros_47 : decode cJI_numberOfLeadingZeros 47 = .ok (.istore_n 0, 1) := by decide +kernel
theorem dJI_numberOfLeadingZeros_48 : decode cJI_numberOfLeadingZeros 48 = .ok (.iload_n 0, 1) := by decide +kernel
theorem dJI_numberOfLeadingZeros_49 : decode cJI_numberOfLeadingZeros 49 = .ok (.bipush 16, 2) := by decide +kernel
theorem dJI_numberOfLeadingZeros_51 : decode cJI_numberOfLeadingZeros 51 = .ok (.if_icmp .lt 10, 3) := by decide +kernel
theorem dJI_numberOfLeadingZeros_54 : decode cJI_numberOfLeadingZeros 54 = .ok (.iinc 1 (-4), 3) := by decide +kernel
theorem dJI_numberOfLeadingZeros_57 : decode cJI_numberOfLeadingZeros 57 = .ok (.iload_n 0, 1) := by decide +kernel
theorem dJI_numberOfLeadingZeros_58 : decode cJI_numberOfLeadingZeros 58 = .ok (.iconst 4, 1) := by decide +kernel
theorem dJI_numberOfLeadingZeros_59 : decode cJI_numberOfLeadingZeros 59 = .ok (.iushr, 1) := by decide +kernel
theorem dJI_numberOfLeadingZeros_60 : decode cJI_numberOfLeadingZeros 60 = .ok (.istore_n 0, 1) := by decide +kernel
theorem dJI_numberOfLeadingZeros_61 : decode cJI_numberOfLeadingZeros 61 = .ok (.iload_n 0, 1) := by decide +kernel
theorem dJI_numberOfLeadingZeros_62 : decode cJI_numberOfLeadingZeros 62 = .ok (.iconst 4, 1) := by decide +kernel
theorem dJI_numberOfLeadingZeros_63 : decode cJI_numberOfLeadingZeros 63 = .ok (.if_icmp .lt 10, 3) := by decide +kernel
theorem dJI_numberOfLeadingZeros_66 : decode cJI_numberOfLeadingZeros 66 = .ok (.iinc 1 (-2), 3) := by decide +kernel
theorem dJI_numberOfLeadingZeros_69 : decode cJI_numberOfLeadingZeros 69 = .ok (.iload_n 0, 1) := by decide +kernel
theorem dJI_numberOfLeadingZeros_70 : decode cJI_numberOfLeadingZeros 70 = .ok (.iconst 2, 1) := by decide +kernel
theorem dJI_numberOfLeadingZeros_71 : decode cJI_numberOfLeadingZeros 71 = .ok (.iushr, 1) := by decide +kernel
theorem dJI_numberOfLeadingZeros_72 : decode cJI_numberOfLeadingZeros 72 = .ok (.istore_n 0, 1) := by decide +kernel
theorem dJI_numberOfLeadingZeros_73 : decode cJI_numberOfLeadingZeros 73 = .ok (.iload_n 1, 1) := by decide +kernel
theorem dJI_numberOfLeadingZeros_74 : decode cJI_numberOfLeadingZeros 74 = .ok (.iload_n 0, 1) := by decide +kernel
theorem dJI_numberOfLeadingZeros_75 : decode cJI_numberOfLeadingZeros 75 = .ok (.iconst 1, 1) := by decide +kernel
theorem dJI_numberOfLeadingZeros_76 : decode cJI_numberOfLeadingZeros 76 = .ok (.iushr, 1) := by decide +kernel
theorem dJI_numberOfLeadingZeros_77 : decode cJI_numberOfLeadingZeros 77 = .ok (.isub, 1) := by decide +kernel
theorem dJI_numberOfLeadingZeros_78 : decode cJI_numberOfLeadingZeros 78 = .ok (.ireturn, 1) := by decide +kernel
theorem dPa_weigh_0 : decode cPa_weigh 0 = .ok (.bipush 72, 2) := by decide +kernel
theorem dPa_weigh_2 : decode cPa_weigh 2 = .ok (.aload_n 1, 1) := by decide +kernel
theorem dPa_weigh_3 : decode cPa_weigh 3 = .ok (.getfield 9, 3) := by decide +kernel
theorem dPa_weigh_6 : decode cPa_weigh 6 = .ok (.aload_n 1, 1) := by decide +kernel
theorem dPa_weigh_7 : decode cPa_weigh 7 = .ok (.invokestatic 15, 3) := by decide +kernel
theorem dPa_weigh_10 : decode cPa_weigh 10 = .ok (.imul, 1) := by decide +kernel
theorem dPa_weigh_11 : decode cPa_weigh 11 = .ok (.iadd, 1) := by decide +kernel
theorem dPa_weigh_12 : decode cPa_weigh 12 = .ok (.invokestatic 19, 3) := by decide +kernel
theorem dPa_weigh_15 : decode cPa_weigh 15 = .ok (.ireturn, 1) := by decide +kernel
theorem dPa_widthOf_0 : decode cPa_widthOf 0 = .ok (.aload_n 0, 1) := by decide +kernel
theorem dPa_widthOf_1 : decode cPa_widthOf 1 = .ok (.getfield 48, 3) := by decide +kernel
theorem dPa_widthOf_4 : decode cPa_widthOf 4 = .ok (.aload_n 0, 1) := by decide +kernel
theorem dPa_widthOf_5 : decode cPa_widthOf 5 = .ok (.getfield 25, 3) := by decide +kernel
theorem dPa_widthOf_8 : decode cPa_widthOf 8 = .ok (.lsub, 1) := by decide +kernel
theorem dPa_widthOf_9 : decode cPa_widthOf 9 = .ok (.invokestatic 51, 3) := by decide +kernel
theorem dPa_widthOf_12 : decode cPa_widthOf 12 = .ok (.ireturn, 1) := by decide +kernel
theorem dPl_weigh_0 : decode cPl_weigh 0 = .ok (.bipush 8, 2) := by decide +kernel
theorem dPl_weigh_2 : decode cPl_weigh 2 = .ok (.aload_n 1, 1) := by decide +kernel
theorem dPl_weigh_3 : decode cPl_weigh 3 = .ok (.getfield 7, 3) := by decide +kernel
theorem dPl_weigh_6 : decode cPl_weigh 6 = .ok (.imul, 1) := by decide +kernel
theorem dPl_weigh_7 : decode cPl_weigh 7 = .ok (.ireturn, 1) := by decide +kernel
theorem dRu_weigh_0 : decode cRu_weigh 0 = .ok (.bipush 16, 2) := by decide +kernel
theorem dRu_weigh_2 : decode cRu_weigh 2 = .ok (.bipush 80, 2) := by decide +kernel
theorem dRu_weigh_4 : decode cRu_weigh 4 = .ok (.aload_n 1, 1) := by decide +kernel
theorem dRu_weigh_5 : decode cRu_weigh 5 = .ok (.getfield 9, 3) := by decide +kernel
theorem dRu_weigh_8 : decode cRu_weigh 8 = .ok (.imul, 1) := by decide +kernel
theorem dRu_weigh_9 : decode cRu_weigh 9 = .ok (.iadd, 1) := by decide +kernel
theorem dRu_weigh_10 : decode cRu_weigh 10 = .ok (.invokestatic 15, 3) := by decide +kernel
theorem dRu_weigh_13 : decode cRu_weigh 13 = .ok (.ireturn, 1) := by decide +kernel
theorem dSs_weigh_0 : decode cSs_weigh 0 = .ok (.sipush 136, 3) := by decide +kernel
theorem dSs_weigh_3 : decode cSs_weigh 3 = .ok (.aload_n 1, 1) := by decide +kernel
theorem dSs_weigh_4 : decode cSs_weigh 4 = .ok (.getfield 9, 3) := by decide +kernel
theorem dSs_weigh_7 : decode cSs_weigh 7 = .ok (.iconst 1, 1) := by decide +kernel
theorem dSs_weigh_8 : decode cSs_weigh 8 = .ok (.isub, 1) := by decide +kernel
theorem dSs_weigh_9 : decode cSs_weigh 9 = .ok (.aload_n 1, 1) := by decide +kernel
theorem dSs_weigh_10 : decode cSs_weigh 10 = .ok (.invokestatic 15, 3) := by decide +kernel
theorem dSs_weigh_13 : decode cSs_weigh 13 = .ok (.imul, 1) := by decide +kernel
theorem dSs_weigh_14 : decode cSs_weigh 14 = .ok (.iadd, 1) := by decide +kernel
theorem dSs_weigh_15 : decode cSs_weigh 15 = .ok (.invokestatic 19, 3) := by decide +kernel
theorem dSs_weigh_18 : decode cSs_weigh 18 = .ok (.ireturn, 1) := by decide +kernel
theorem dSs_widthOf_0 : decode cSs_widthOf 0 = .ok (.aload_n 0, 1) := by decide +kernel
theorem dSs_widthOf_1 : decode cSs_widthOf 1 = .ok (.getfield 52, 3) := by decide +kernel
theorem dSs_widthOf_4 : decode cSs_widthOf 4 = .ok (.aload_n 0, 1) := by decide +kernel
theorem dSs_widthOf_5 : decode cSs_widthOf 5 = .ok (.getfield 35, 3) := by decide +kernel
theorem dSs_widthOf_8 : decode cSs_widthOf 8 = .ok (.lsub, 1) := by decide +kernel
theorem dSs_widthOf_9 : decode cSs_widthOf 9 = .ok (.invokestatic 55, 3) := by decide +kernel
theorem dSs_widthOf_12 : decode cSs_widthOf 12 = .ok (.ireturn, 1) := by decide +kernel
theorem dCf_write_0 : decode cCf_write 0 = .ok (.aload_n 0, 1) := by decide +kernel
theorem dCf_write_1 : decode cCf_write 1 = .ok (.invokevirtual 79, 3) := by decide +kernel
theorem dCf_write_4 : decode cCf_write 4 = .ok (.aload_n 0, 1) := by decide +kernel
theorem dCf_write_5 : decode cCf_write 5 = .ok (.aload_n 0, 1) := by decide +kernel
theorem dCf_write_6 : decode cCf_write 6 = .ok (.invokevirtual 86, 3) := by decide +kernel
theorem dCf_write_9 : decode cCf_write 9 = .ok (.invokevirtual 90, 3) := by decide +kernel
theorem dCf_write_12 : decode cCf_write 12 = .ok (.ireturn, 1) := by decide +kernel
theorem dCf_lightestForm_0 : decode cCf_lightestForm 0 = .ok (.iconst 0, 1) := by decide +kernel
theorem dCf_lightestForm_1 : decode cCf_lightestForm 1 = .ok (.istore_n 1, 1) := by decide +kernel
theorem dCf_lightestForm_2 : decode cCf_lightestForm 2 = .ok (.aload_n 0, 1) := by decide +kernel
theorem dCf_lightestForm_3 : decode cCf_lightestForm 3 = .ok (.getfield 40, 3) := by decide +kernel
theorem dCf_lightestForm_6 : decode cCf_lightestForm 6 = .ok (.iconst 0, 1) := by decide +kernel
theorem dCf_lightestForm_7 : decode cCf_lightestForm 7 = .ok (.aaload, 1) := by decide +kernel
theorem dCf_lightestForm_8 : decode cCf_lightestForm 8 = .ok (.aload_n 0, 1) := by decide +kernel
theorem dCf_lightestForm_9 : decode cCf_lightestForm 9 = .ok (.getfield 10, 3) := by decide +kernel
theorem dCf_lightestForm_12 : decode cCf_lightestForm 12 = .ok (.invokevirtual 82, 3) := by decide +kernel
theorem dCf_lightestForm_15 : decode cCf_lightestForm 15 = .ok (.istore_n 2, 1) := by decide +kernel
theorem dCf_lightestForm_16 : decode cCf_lightestForm 16 = .ok (.iconst 1, 1) := by decide +kernel
theorem dCf_lightestForm_17 : decode cCf_lightestForm 17 = .ok (.istore_n 3, 1) := by decide +kernel
theorem dCf_lightestForm_18 : decode cCf_lightestForm 18 = .ok (.iload_n 3, 1) := by decide +kernel
theorem dCf_lightestForm_19 : decode cCf_lightestForm 19 = .ok (.iconst 5, 1) := by decide +kernel
theorem dCf_lightestForm_20 : decode cCf_lightestForm 20 = .ok (.if_icmp .ge 35, 3) := by decide +kernel
theorem dCf_lightestForm_23 : decode cCf_lightestForm 23 = .ok (.aload_n 0, 1) := by decide +kernel
theorem dCf_lightestForm_24 : decode cCf_lightestForm 24 = .ok (.getfield 40, 3) := by decide +kernel
theorem dCf_lightestForm_27 : decode cCf_lightestForm 27 = .ok (.iload_n 3, 1) := by decide +kernel
theorem dCf_lightestForm_28 : decode cCf_lightestForm 28 = .ok (.aaload, 1) := by decide +kernel
theorem dCf_lightestForm_29 : decode cCf_lightestForm 29 = .ok (.aload_n 0, 1) := by decide +kernel
theorem dCf_lightestForm_30 : decode cCf_lightestForm 30 = .ok (.getfield 10, 3) := by decide +kernel
theorem dCf_lightestForm_33 : decode cCf_lightestForm 33 = .ok (.invokevirtual 82, 3) := by decide +kernel
theorem dCf_lightestForm_36 : decode cCf_lightestForm 36 = .ok (.istore 4, 2) := by decide +kernel
theorem dCf_lightestForm_38 : decode cCf_lightestForm 38 = .ok (.iload 4, 2) := by decide +kernel
theorem dCf_lightestForm_40 : decode cCf_lightestForm 40 = .ok (.iload_n 2, 1) := by decide +kernel
theorem dCf_lightestForm_41 : decode cCf_lightestForm 41 = .ok (.if_icmp .ge 8, 3) := by decide +kernel
theorem dCf_lightestForm_44 : decode cCf_lightestForm 44 = .ok (.iload_n 3, 1) := by decide +kernel
theorem dCf_lightestForm_45 : decode cCf_lightestForm 45 = .ok (.istore_n 1, 1) := by decide +kernel
theorem dCf_lightestForm_46 : decode cCf_lightestForm 46 = .ok (.iload 4, 2) := by decide +kernel
theorem dCf_lightestForm_48 : decode cCf_lightestForm 48 = .ok (.istore_n 2, 1) := by decide +kernel
theorem dCf_lightestForm_49 : decode cCf_lightestForm 49 = .ok (.iinc 3 1, 3) := by decide +kernel
theorem dCf_lightestForm_52 : decode cCf_lightestForm 52 = .ok (.goto (-34), 3) := by decide +kernel
theorem dCf_lightestForm_55 : decode cCf_lightestForm 55 = .ok (.iload_n 1, 1) := by decide +kernel
theorem dCf_lightestForm_56 : decode cCf_lightestForm 56 = .ok (.ireturn, 1) := by decide +kernel
theorem dCf_writeRow_0 : decode cCf_writeRow 0 = .ok (.aload_n 0, 1) := by decide +kernel
theorem dCf_writeRow_1 : decode cCf_writeRow 1 = .ok (.getfield 19, 3) := by decide +kernel
theorem dCf_writeRow_4 : decode cCf_writeRow 4 = .ok (.invokevirtual 134, 3) := by decide +kernel
theorem dCf_writeRow_7 : decode cCf_writeRow 7 = .ok (.aload_n 0, 1) := by decide +kernel
theorem dCf_writeRow_8 : decode cCf_writeRow 8 = .ok (.getfield 40, 3) := by decide +kernel
theorem dCf_writeRow_11 : decode cCf_writeRow 11 = .ok (.iload_n 1, 1) := by decide +kernel
theorem dCf_writeRow_12 : decode cCf_writeRow 12 = .ok (.aaload, 1) := by decide +kernel
theorem dCf_writeRow_13 : decode cCf_writeRow 13 = .ok (.aload_n 0, 1) := by decide +kernel
theorem dCf_writeRow_14 : decode cCf_writeRow 14 = .ok (.getfield 10, 3) := by decide +kernel
theorem dCf_writeRow_17 : decode cCf_writeRow 17 = .ok (.aload_n 0, 1) := by decide +kernel
theorem dCf_writeRow_18 : decode cCf_writeRow 18 = .ok (.getfield 19, 3) := by decide +kernel
theorem dCf_writeRow_21 : decode cCf_writeRow 21 = .ok (.invokevirtual 137, 3) := by decide +kernel
theorem dCf_writeRow_24 : decode cCf_writeRow 24 = .ok (.aload_n 0, 1) := by decide +kernel
theorem dCf_writeRow_25 : decode cCf_writeRow 25 = .ok (.iload_n 1, 1) := by decide +kernel
theorem dCf_writeRow_26 : decode cCf_writeRow 26 = .ok (.putfield 44, 3) := by decide +kernel
theorem dCf_writeRow_29 : decode cCf_writeRow 29 = .ok (.aload_n 0, 1) := by decide +kernel
theorem dCf_writeRow_30 : decode cCf_writeRow 30 = .ok (.aload_n 0, 1) := by decide +kernel
theorem dCf_writeRow_31 : decode cCf_writeRow 31 = .ok (.getfield 10, 3) := by decide +kernel
theorem dCf_writeRow_34 : decode cCf_writeRow 34 = .ok (.getfield 51, 3) := by decide +kernel
theorem dCf_writeRow_37 : decode cCf_writeRow 37 = .ok (.putfield 48, 3) := by decide +kernel
theorem dCf_writeRow_40 : decode cCf_writeRow 40 = .ok (.aload_n 0, 1) := by decide +kernel
theorem dCf_writeRow_41 : decode cCf_writeRow 41 = .ok (.getfield 19, 3) := by decide +kernel
theorem dCf_writeRow_44 : decode cCf_writeRow 44 = .ok (.invokevirtual 94, 3) := by decide +kernel
theorem dCf_writeRow_47 : decode cCf_writeRow 47 = .ok (.ireturn, 1) := by decide +kernel
theorem dBy_restart_0 : decode cBy_restart 0 = .ok (.aload_n 0, 1) := by decide +kernel
theorem dBy_restart_1 : decode cBy_restart 1 = .ok (.getfield 9, 3) := by decide +kernel
theorem dBy_restart_4 : decode cBy_restart 4 = .ok (.arraylength, 1) := by decide +kernel
theorem dBy_restart_5 : decode cBy_restart 5 = .ok (.sipush 10242, 3) := by decide +kernel
theorem dBy_restart_8 : decode cBy_restart 8 = .ok (.if_icmp .ge 12, 3) := by decide +kernel
theorem dBy_restart_11 : decode cBy_restart 11 = .ok (.aload_n 0, 1) := by decide +kernel
theorem dBy_restart_12 : decode cBy_restart 12 = .ok (.sipush 10242, 3) := by decide +kernel
theorem dBy_restart_15 : decode cBy_restart 15 = .ok (.newarray .byte, 2) := by decide +kernel
theorem dBy_restart_17 : decode cBy_restart 17 = .ok (.putfield 9, 3) := by decide +kernel
theorem dBy_restart_20 : decode cBy_restart 20 = .ok (.aload_n 0, 1) := by decide +kernel
theorem dBy_restart_21 : decode cBy_restart 21 = .ok (.iconst 0, 1) := by decide +kernel
theorem dBy_restart_22 : decode cBy_restart 22 = .ok (.putfield 15, 3) := by decide +kernel
theorem dBy_restart_25 : decode cBy_restart 25 = .ok (.return_, 1) := by decide +kernel
theorem dLi_lay_0 : decode cLi_lay 0 = .ok (.aload_n 2, 1) := by decide +kernel
theorem dLi_lay_1 : decode cLi_lay 1 = .ok (.aload_n 1, 1) := by decide +kernel
theorem dLi_lay_2 : decode cLi_lay 2 = .ok (.getfield 15, 3) := by decide +kernel
theorem dLi_lay_5 : decode cLi_lay 5 = .ok (.i2l, 1) := by decide +kernel
theorem dLi_lay_6 : decode cLi_lay 6 = .ok (.bipush 16, 2) := by decide +kernel
theorem dLi_lay_8 : decode cLi_lay 8 = .ok (.invokevirtual 35, 3) := by decide +kernel
theorem dLi_lay_11 : decode cLi_lay 11 = .ok (.iconst 0, 1) := by decide +kernel
theorem dLi_lay_12 : decode cLi_lay 12 = .ok (.istore_n 3, 1) := by decide +kernel
theorem dLi_lay_13 : decode cLi_lay 13 = .ok (.iload_n 3, 1) := by decide +kernel
theorem dLi_lay_14 : decode cLi_lay 14 = .ok (.aload_n 1, 1) := by decide +kernel
theorem dLi_lay_15 : decode cLi_lay 15 = .ok (.getfield 15, 3) := by decide +kernel
theorem dLi_lay_18 : decode cLi_lay 18 = .ok (.if_icmp .ge 20, 3) := by decide +kernel
theorem dLi_lay_21 : decode cLi_lay 21 = .ok (.aload_n 2, 1) := by decide +kernel
theorem dLi_lay_22 : decode cLi_lay 22 = .ok (.aload_n 1, 1) := by decide +kernel
theorem dLi_lay_23 : decode cLi_lay 23 = .ok (.iload_n 3, 1) := by decide +kernel
theorem dLi_lay_24 : decode cLi_lay 24 = .ok (.invokevirtual 41, 3) := by decide +kernel
theorem dLi_lay_27 : decode cLi_lay 27 = .ok (.bipush 64, 2) := by decide +kernel
theorem dLi_lay_29 : decode cLi_lay 29 = .ok (.invokevirtual 35, 3) := by decide +kernel
theorem dLi_lay_32 : decode cLi_lay 32 = .ok (.iinc 3 1, 3) := by decide +kernel
theorem dLi_lay_35 : decode cLi_lay 35 = .ok (.goto (-22), 3) := by decide +kernel
theorem dLi_lay_38 : decode cLi_lay 38 = .ok (.aload_n 1, 1) := by decide +kernel
theorem dLi_lay_39 : decode cLi_lay 39 = .ok (.getfield 15, 3) := by decide +kernel
theorem dLi_lay_42 : decode cLi_lay 42 = .ok (.iconst 1, 1) := by decide +kernel
theorem dLi_lay_43 : decode cLi_lay 43 = .ok (.isub, 1) := by decide +kernel
theorem dLi_lay_44 : decode cLi_lay 44 = .ok (.i2l, 1) := by decide +kernel
theorem dLi_lay_45 : decode cLi_lay 45 = .ok (.invokestatic 28, 3) := by decide +kernel
theorem dLi_lay_48 : decode cLi_lay 48 = .ok (.istore_n 3, 1) := by decide +kernel
theorem dLi_lay_49 : decode cLi_lay 49 = .ok (.iconst 0, 1) := by decide +kernel
theorem dLi_lay_50 : decode cLi_lay 50 = .ok (.istore 4, 2) := by decide +kernel
theorem dLi_lay_52 : decode cLi_lay 52 = .ok (.iload 4, 2) := by decide +kernel
theorem dLi_lay_54 : decode cLi_lay 54 = .ok (.aload_n 1, 1) := by decide +kernel
theorem dLi_lay_55 : decode cLi_lay 55 = .ok (.getfield 25, 3) := by decide +kernel
theorem dLi_lay_58 : decode cLi_lay 58 = .ok (.if_icmp .ge 25, 3) := by decide +kernel
theorem dLi_lay_61 : decode cLi_lay 61 = .ok (.aload_n 2, 1) := by decide +kernel
theorem dLi_lay_62 : decode cLi_lay 62 = .ok (.aload_n 1, 1) := by decide +kernel
theorem dLi_lay_63 : decode cLi_lay 63 = .ok (.aload_n 1, 1) := by decide +kernel
theorem dLi_lay_64 : decode cLi_lay 64 = .ok (.iload 4, 2) := by decide +kernel
theorem dLi_lay_66 : decode cLi_lay 66 = .ok (.invokevirtual 45, 3) := by decide +kernel
theorem dLi_lay_69 : decode cLi_lay 69 = .ok (.invokevirtual 48, 3) := by decide +kernel
theorem dLi_lay_72 : decode cLi_lay 72 = .ok (.i2l, 1) := by decide +kernel
theorem dLi_lay_73 : decode cLi_lay 73 = .ok (.iload_n 3, 1) := by decide +kernel
theorem dLi_lay_74 : decode cLi_lay 74 = .ok (.invokevirtual 35, 3) := by decide +kernel
theorem dLi_lay_77 : decode cLi_lay 77 = .ok (.iinc 4 1, 3) := by decide +kernel
theorem dLi_lay_80 : decode cLi_lay 80 = .ok (.goto (-28), 3) := by decide +kernel
theorem dLi_lay_83 : decode cLi_lay 83 = .ok (.return_, 1) := by decide +kernel
theorem dBy_append_0 : decode cBy_append 0 = .ok (.iload_n 3, 1) := by decide +kernel
theorem dBy_append_1 : decode cBy_append 1 = .ok (.istore 4, 2) := by decide +kernel
theorem dBy_append_3 : decode cBy_append 3 = .ok (.iconst 0, 1) := by decide +kernel
theorem dBy_append_4 : decode cBy_append 4 = .ok (.istore 5, 2) := by decide +kernel
theorem dBy_append_6 : decode cBy_append 6 = .ok (.iload 5, 2) := by decide +kernel
theorem dBy_append_8 : decode cBy_append 8 = .ok (.bipush 9, 2) := by decide +kernel
theorem dBy_append_10 : decode cBy_append 10 = .ok (.if_icmp .ge 70, 3) := by decide +kernel
theorem dBy_append_13 : decode cBy_append 13 = .ok (.iload 4, 2) := by decide +kernel
theorem dBy_append_15 : decode cBy_append 15 = .ok (.ifCond .le 65, 3) := by decide +kernel
theorem dBy_append_18 : decode cBy_append 18 = .ok (.bipush 8, 2) := by decide +kernel
theorem dBy_append_20 : decode cBy_append 20 = .ok (.aload_n 0, 1) := by decide +kernel
theorem dBy_append_21 : decode cBy_append 21 = .ok (.getfield 15, 3) := by decide +kernel
theorem dBy_append_24 : decode cBy_append 24 = .ok (.bipush 7, 2) := by decide +kernel
theorem dBy_append_26 : decode cBy_append 26 = .ok (.iand, 1) := by decide +kernel
theorem dBy_append_27 : decode cBy_append 27 = .ok (.isub, 1) := by decide +kernel
theorem dBy_append_28 : decode cBy_append 28 = .ok (.istore 6, 2) := by decide +kernel
theorem dBy_append_30 : decode cBy_append 30 = .ok (.iload 6, 2) := by decide +kernel
theorem dBy_append_32 : decode cBy_append 32 = .ok (.iload 4, 2) := by decide +kernel
theorem dBy_append_34 : decode cBy_append 34 = .ok (.invokestatic 23, 3) := by decide +kernel
theorem dBy_append_37 : decode cBy_append 37 = .ok (.istore 7, 2) := by decide +kernel
theorem dBy_append_39 : decode cBy_append 39 = .ok (.iload 4, 2) := by decide +kernel
theorem dBy_append_41 : decode cBy_append 41 = .ok (.iload 7, 2) := by decide +kernel
theorem dBy_append_43 : decode cBy_append 43 = .ok (.isub, 1) := by decide +kernel
theorem dBy_append_44 : decode cBy_append 44 = .ok (.istore 4, 2) := by decide +kernel
theorem dBy_append_46 : decode cBy_append 46 = .ok (.lload_n 1, 1) := by decide +kernel
theorem dBy_append_47 : decode cBy_append 47 = .ok (.iload 4, 2) := by decide +kernel
theorem dBy_append_49 : decode cBy_append 49 = .ok (.lushr, 1) := by decide +kernel
theorem dBy_append_50 : decode cBy_append 50 = .ok (.l2i, 1) := by decide +kernel
theorem dBy_append_51 : decode cBy_append 51 = .ok (.iconst 1, 1) := by decide +kernel
theorem dBy_append_52 : decode cBy_append 52 = .ok (.iload 7, 2) := by decide +kernel
theorem dBy_append_54 : decode cBy_append 54 = .ok (.ishl, 1) := by decide +kernel
theorem dBy_append_55 : decode cBy_append 55 = .ok (.iconst 1, 1) := by decide +kernel
theorem dBy_append_56 : decode cBy_append 56 = .ok (.isub, 1) := by decide +kernel
theorem dBy_append_57 : decode cBy_append 57 = .ok (.iand, 1) := by decide +kernel
theorem dBy_append_58 : decode cBy_append 58 = .ok (.istore 8, 2) := by decide +kernel
theorem dBy_append_60 : decode cBy_append 60 = .ok (.aload_n 0, 1) := by decide +kernel
theorem dBy_append_61 : decode cBy_append 61 = .ok (.iload 8, 2) := by decide +kernel
theorem dBy_append_63 : decode cBy_append 63 = .ok (.iload 6, 2) := by decide +kernel
theorem dBy_append_65 : decode cBy_append 65 = .ok (.iload 7, 2) := by decide +kernel
theorem dBy_append_67 : decode cBy_append 67 = .ok (.isub, 1) := by decide +kernel
theorem dBy_append_68 : decode cBy_append 68 = .ok (.ishl, 1) := by decide +kernel
theorem dBy_append_69 : decode cBy_append 69 = .ok (.iload 7, 2) := by decide +kernel
theorem dBy_append_71 : decode cBy_append 71 = .ok (.invokevirtual 29, 3) := by decide +kernel
theorem dBy_append_74 : decode cBy_append 74 = .ok (.iinc 5 1, 3) := by decide +kernel
theorem dBy_append_77 : decode cBy_append 77 = .ok (.goto (-71), 3) := by decide +kernel
theorem dBy_append_80 : decode cBy_append 80 = .ok (.return_, 1) := by decide +kernel
theorem dBy_addToLast_0 : decode cBy_addToLast 0 = .ok (.aload_n 0, 1) := by decide +kernel
theorem dBy_addToLast_1 : decode cBy_addToLast 1 = .ok (.getfield 15, 3) := by decide +kernel
theorem dBy_addToLast_4 : decode cBy_addToLast 4 = .ok (.iconst 3, 1) := by decide +kernel
theorem dBy_addToLast_5 : decode cBy_addToLast 5 = .ok (.ishr, 1) := by decide +kernel
theorem dBy_addToLast_6 : decode cBy_addToLast 6 = .ok (.istore_n 3, 1) := by decide +kernel
theorem dBy_addToLast_7 : decode cBy_addToLast 7 = .ok (.iload_n 3, 1) := by decide +kernel
theorem dBy_addToLast_8 : decode cBy_addToLast 8 = .ok (.aload_n 0, 1) := by decide +kernel
theorem dBy_addToLast_9 : decode cBy_addToLast 9 = .ok (.getfield 9, 3) := by decide +kernel
theorem dBy_addToLast_12 : decode cBy_addToLast 12 = .ok (.arraylength, 1) := by decide +kernel
theorem dBy_addToLast_13 : decode cBy_addToLast 13 = .ok (.if_icmp .lt 4, 3) := by decide +kernel
theorem dBy_addToLast_16 : decode cBy_addToLast 16 = .ok (.return_, 1) := by decide +kernel
theorem dBy_addToLast_17 : decode cBy_addToLast 17 = .ok (.aload_n 0, 1) := by decide +kernel
theorem dBy_addToLast_18 : decode cBy_addToLast 18 = .ok (.getfield 15, 3) := by decide +kernel
theorem dBy_addToLast_21 : decode cBy_addToLast 21 = .ok (.bipush 7, 2) := by decide +kernel
theorem dBy_addToLast_23 : decode cBy_addToLast 23 = .ok (.iand, 1) := by decide +kernel
theorem dBy_addToLast_24 : decode cBy_addToLast 24 = .ok (.ifCond .ne 7, 3) := by decide +kernel
theorem dBy_addToLast_27 : decode cBy_addToLast 27 = .ok (.iconst 0, 1) := by decide +kernel
theorem dBy_addToLast_28 : decode cBy_addToLast 28 = .ok (.goto 9, 3) := by decide +kernel
theorem dBy_addToLast_31 : decode cBy_addToLast 31 = .ok (.aload_n 0, 1) := by decide +kernel
theorem dBy_addToLast_32 : decode cBy_addToLast 32 = .ok (.getfield 9, 3) := by decide +kernel
theorem dBy_addToLast_35 : decode cBy_addToLast 35 = .ok (.iload_n 3, 1) := by decide +kernel
theorem dBy_addToLast_36 : decode cBy_addToLast 36 = .ok (.baload, 1) := by decide +kernel
theorem dBy_addToLast_37 : decode cBy_addToLast 37 = .ok (.istore 4, 2) := by decide +kernel
theorem dBy_addToLast_39 : decode cBy_addToLast 39 = .ok (.aload_n 0, 1) := by decide +kernel
theorem dBy_addToLast_40 : decode cBy_addToLast 40 = .ok (.getfield 9, 3) := by decide +kernel
theorem dBy_addToLast_43 : decode cBy_addToLast 43 = .ok (.iload_n 3, 1) := by decide +kernel
theorem dBy_addToLast_44 : decode cBy_addToLast 44 = .ok (.iload 4, 2) := by decide +kernel
theorem dBy_addToLast_46 : decode cBy_addToLast 46 = .ok (.iload_n 1, 1) := by decide +kernel
theorem dBy_addToLast_47 : decode cBy_addToLast 47 = .ok (.ior, 1) := by decide +kernel
theorem dBy_addToLast_48 : decode cBy_addToLast 48 = .ok (.i2b, 1) := by decide +kernel
theorem dBy_addToLast_49 : decode cBy_addToLast 49 = .ok (.bastore, 1) := by decide +kernel
theorem dBy_addToLast_50 : decode cBy_addToLast 50 = .ok (.aload_n 0, 1) := by decide +kernel
theorem dBy_addToLast_51 : decode cBy_addToLast 51 = .ok (.dup, 1) := by decide +kernel
theorem dBy_addToLast_52 : decode cBy_addToLast 52 = .ok (.getfield 15, 3) := by decide +kernel
theorem dBy_addToLast_55 : decode cBy_addToLast 55 = .ok (.iload_n 2, 1) := by decide +kernel
theorem dBy_addToLast_56 : decode cBy_addToLast 56 = .ok (.iadd, 1) := by decide +kernel
theorem dBy_addToLast_57 : decode cBy_addToLast 57 = .ok (.putfield 15, 3) := by decide +kernel
theorem dBy_addToLast_60 : decode cBy_addToLast 60 = .ok (.return_, 1) := by decide +kernel
theorem dPa_lay_0 : decode cPa_lay 0 = .ok (.aload_n 1, 1) := by decide +kernel
theorem dPa_lay_1 : decode cPa_lay 1 = .ok (.invokestatic 15, 3) := by decide +kernel
theorem dPa_lay_4 : decode cPa_lay 4 = .ok (.istore_n 3, 1) := by decide +kernel
theorem dPa_lay_5 : decode cPa_lay 5 = .ok (.aload_n 2, 1) := by decide +kernel
theorem dPa_lay_6 : decode cPa_lay 6 = .ok (.aload_n 1, 1) := by decide +kernel
theorem dPa_lay_7 : decode cPa_lay 7 = .ok (.getfield 25, 3) := by decide +kernel
theorem dPa_lay_10 : decode cPa_lay 10 = .ok (.bipush 64, 2) := by decide +kernel
theorem dPa_lay_12 : decode cPa_lay 12 = .ok (.invokevirtual 29, 3) := by decide +kernel
theorem dPa_lay_15 : decode cPa_lay 15 = .ok (.aload_n 2, 1) := by decide +kernel
theorem dPa_lay_16 : decode cPa_lay 16 = .ok (.iload_n 3, 1) := by decide +kernel
theorem dPa_lay_17 : decode cPa_lay 17 = .ok (.i2l, 1) := by decide +kernel
theorem dPa_lay_18 : decode cPa_lay 18 = .ok (.bipush 8, 2) := by decide +kernel
theorem dPa_lay_20 : decode cPa_lay 20 = .ok (.invokevirtual 29, 3) := by decide +kernel
theorem dPa_lay_23 : decode cPa_lay 23 = .ok (.iconst 0, 1) := by decide +kernel
theorem dPa_lay_24 : decode cPa_lay 24 = .ok (.istore 4, 2) := by decide +kernel
theorem dPa_lay_26 : decode cPa_lay 26 = .ok (.iload 4, 2) := by decide +kernel
theorem dPa_lay_28 : decode cPa_lay 28 = .ok (.aload_n 1, 1) := by decide +kernel
theorem dPa_lay_29 : decode cPa_lay 29 = .ok (.getfield 9, 3) := by decide +kernel
theorem dPa_lay_32 : decode cPa_lay 32 = .ok (.if_icmp .ge 25, 3) := by decide +kernel
theorem dPa_lay_35 : decode cPa_lay 35 = .ok (.aload_n 2, 1) := by decide +kernel
theorem dPa_lay_36 : decode cPa_lay 36 = .ok (.aload_n 1, 1) := by decide +kernel
theorem dPa_lay_37 : decode cPa_lay 37 = .ok (.iload 4, 2) := by decide +kernel
theorem dPa_lay_39 : decode cPa_lay 39 = .ok (.invokevirtual 35, 3) := by decide +kernel
theorem dPa_lay_42 : decode cPa_lay 42 = .ok (.aload_n 1, 1) := by decide +kernel
theorem dPa_lay_43 : decode cPa_lay 43 = .ok (.getfield 25, 3) := by decide +kernel
theorem dPa_lay_46 : decode cPa_lay 46 = .ok (.lsub, 1) := by decide +kernel
theorem dPa_lay_47 : decode cPa_lay 47 = .ok (.iload_n 3, 1) := by decide +kernel
theorem dPa_lay_48 : decode cPa_lay 48 = .ok (.invokevirtual 29, 3) := by decide +kernel
theorem dPa_lay_51 : decode cPa_lay 51 = .ok (.iinc 4 1, 3) := by decide +kernel
theorem dPa_lay_54 : decode cPa_lay 54 = .ok (.goto (-28), 3) := by decide +kernel
theorem dPa_lay_57 : decode cPa_lay 57 = .ok (.return_, 1) := by decide +kernel
theorem dPl_lay_0 : decode cPl_lay 0 = .ok (.iconst 0, 1) := by decide +kernel
theorem dPl_lay_1 : decode cPl_lay 1 = .ok (.istore_n 3, 1) := by decide +kernel
theorem dPl_lay_2 : decode cPl_lay 2 = .ok (.iload_n 3, 1) := by decide +kernel
theorem dPl_lay_3 : decode cPl_lay 3 = .ok (.aload_n 1, 1) := by decide +kernel
theorem dPl_lay_4 : decode cPl_lay 4 = .ok (.getfield 7, 3) := by decide +kernel
theorem dPl_lay_7 : decode cPl_lay 7 = .ok (.if_icmp .ge 20, 3) := by decide +kernel
theorem dPl_lay_10 : decode cPl_lay 10 = .ok (.aload_n 2, 1) := by decide +kernel
theorem dPl_lay_11 : decode cPl_lay 11 = .ok (.aload_n 1, 1) := by decide +kernel
theorem dPl_lay_12 : decode cPl_lay 12 = .ok (.iload_n 3, 1) := by decide +kernel
theorem dPl_lay_13 : decode cPl_lay 13 = .ok (.invokevirtual 13, 3) := by decide +kernel
theorem dPl_lay_16 : decode cPl_lay 16 = .ok (.bipush 64, 2) := by decide +kernel
theorem dPl_lay_18 : decode cPl_lay 18 = .ok (.invokevirtual 17, 3) := by decide +kernel
theorem dPl_lay_21 : decode cPl_lay 21 = .ok (.iinc 3 1, 3) := by decide +kernel
theorem dPl_lay_24 : decode cPl_lay 24 = .ok (.goto (-22), 3) := by decide +kernel
theorem dPl_lay_27 : decode cPl_lay 27 = .ok (.return_, 1) := by decide +kernel
theorem dRu_lay_0 : decode cRu_lay 0 = .ok (.aload_n 2, 1) := by decide +kernel
theorem dRu_lay_1 : decode cRu_lay 1 = .ok (.aload_n 1, 1) := by decide +kernel
theorem dRu_lay_2 : decode cRu_lay 2 = .ok (.getfield 9, 3) := by decide +kernel
theorem dRu_lay_5 : decode cRu_lay 5 = .ok (.i2l, 1) := by decide +kernel
theorem dRu_lay_6 : decode cRu_lay 6 = .ok (.bipush 16, 2) := by decide +kernel
theorem dRu_lay_8 : decode cRu_lay 8 = .ok (.invokevirtual 21, 3) := by decide +kernel
theorem dRu_lay_11 : decode cRu_lay 11 = .ok (.iconst 0, 1) := by decide +kernel
theorem dRu_lay_12 : decode cRu_lay 12 = .ok (.istore_n 3, 1) := by decide +kernel
theorem dRu_lay_13 : decode cRu_lay 13 = .ok (.iconst 1, 1) := by decide +kernel
theorem dRu_lay_14 : decode cRu_lay 14 = .ok (.istore 4, 2) := by decide +kernel
theorem dRu_lay_16 : decode cRu_lay 16 = .ok (.iload 4, 2) := by decide +kernel
theorem dRu_lay_18 : decode cRu_lay 18 = .ok (.aload_n 1, 1) := by decide +kernel
theorem dRu_lay_19 : decode cRu_lay 19 = .ok (.getfield 27, 3) := by decide +kernel
theorem dRu_lay_22 : decode cRu_lay 22 = .ok (.if_icmp .gt 58, 3) := by decide +kernel
theorem dRu_lay_25 : decode cRu_lay 25 = .ok (.iload 4, 2) := by decide +kernel
theorem dRu_lay_27 : decode cRu_lay 27 = .ok (.aload_n 1, 1) := by decide +kernel
theorem dRu_lay_28 : decode cRu_lay 28 = .ok (.getfield 27, 3) := by decide +kernel
theorem dRu_lay_31 : decode cRu_lay 31 = .ok (.if_icmp .eq 18, 3) := by decide +kernel
theorem dRu_lay_34 : decode cRu_lay 34 = .ok (.aload_n 1, 1) := by decide +kernel
theorem dRu_lay_35 : decode cRu_lay 35 = .ok (.iload 4, 2) := by decide +kernel
theorem dRu_lay_37 : decode cRu_lay 37 = .ok (.invokevirtual 30, 3) := by decide +kernel
theorem dRu_lay_40 : decode cRu_lay 40 = .ok (.aload_n 1, 1) := by decide +kernel
theorem dRu_lay_41 : decode cRu_lay 41 = .ok (.iload_n 3, 1) := by decide +kernel
theorem dRu_lay_42 : decode cRu_lay 42 = .ok (.invokevirtual 30, 3) := by decide +kernel
theorem dRu_lay_45 : decode cRu_lay 45 = .ok (.lcmp, 1) := by decide +kernel
theorem dRu_lay_46 : decode cRu_lay 46 = .ok (.ifCond .eq 28, 3) := by decide +kernel
theorem dRu_lay_49 : decode cRu_lay 49 = .ok (.aload_n 2, 1) := by decide +kernel
theorem dRu_lay_50 : decode cRu_lay 50 = .ok (.aload_n 1, 1) := by decide +kernel
theorem dRu_lay_51 : decode cRu_lay 51 = .ok (.iload_n 3, 1) := by decide +kernel
theorem dRu_lay_52 : decode cRu_lay 52 = .ok (.invokevirtual 30, 3) := by decide +kernel
theorem dRu_lay_55 : decode cRu_lay 55 = .ok (.bipush 64, 2) := by decide +kernel
theorem dRu_lay_57 : decode cRu_lay 57 = .ok (.invokevirtual 21, 3) := by decide +kernel
theorem dRu_lay_60 : decode cRu_lay 60 = .ok (.aload_n 2, 1) := by decide +kernel
theorem dRu_lay_61 : decode cRu_lay 61 = .ok (.iload 4, 2) := by decide +kernel
theorem dRu_lay_63 : decode cRu_lay 63 = .ok (.iload_n 3, 1) := by decide +kernel
theorem dRu_lay_64 : decode cRu_lay 64 = .ok (.isub, 1) := by decide +kernel
end
section
theorem dRu_lay_65 : decode cRu_lay 65 = .ok (.i2l, 1) := by decide +kernel
theorem dRu_lay_66 : decode cRu_lay 66 = .ok (.bipush 16, 2) := by decide +kernel
theorem dRu_lay_68 : decode cRu_lay 68 = .ok (.invokevirtual 21, 3) := by decide +kernel
theorem dRu_lay_71 : decode cRu_lay 71 = .ok (.iload 4, 2) := by decide +kernel
theorem dRu_lay_73 : decode cRu_lay 73 = .ok (.istore_n 3, 1) := by decide +kernel
theorem dRu_lay_74 : decode cRu_lay 74 = .ok (.iinc 4 1, 3) := by decide +kernel
theorem dRu_lay_77 : decode cRu_lay 77 = .ok (.goto (-61), 3) := by decide +kernel
theorem dRu_lay_80 : decode cRu_lay 80 = .ok (.return_, 1) := by decide +kernel
theorem dSs_lay_0 : decode cSs_lay 0 = .ok (.aload_n 1, 1) := by decide +kernel
theorem dSs_lay_1 : decode cSs_lay 1 = .ok (.invokestatic 15, 3) := by decide +kernel
theorem dSs_lay_4 : decode cSs_lay 4 = .ok (.istore_n 3, 1) := by decide +kernel
theorem dSs_lay_5 : decode cSs_lay 5 = .ok (.aload_n 2, 1) := by decide +kernel
theorem dSs_lay_6 : decode cSs_lay 6 = .ok (.aload_n 1, 1) := by decide +kernel
theorem dSs_lay_7 : decode cSs_lay 7 = .ok (.iconst 0, 1) := by decide +kernel
theorem dSs_lay_8 : decode cSs_lay 8 = .ok (.invokevirtual 25, 3) := by decide +kernel
theorem dSs_lay_11 : decode cSs_lay 11 = .ok (.bipush 64, 2) := by decide +kernel
theorem dSs_lay_13 : decode cSs_lay 13 = .ok (.invokevirtual 29, 3) := by decide +kernel
theorem dSs_lay_16 : decode cSs_lay 16 = .ok (.aload_n 2, 1) := by decide +kernel
theorem dSs_lay_17 : decode cSs_lay 17 = .ok (.aload_n 1, 1) := by decide +kernel
theorem dSs_lay_18 : decode cSs_lay 18 = .ok (.getfield 35, 3) := by decide +kernel
theorem dSs_lay_21 : decode cSs_lay 21 = .ok (.bipush 64, 2) := by decide +kernel
theorem dSs_lay_23 : decode cSs_lay 23 = .ok (.invokevirtual 29, 3) := by decide +kernel
theorem dSs_lay_26 : decode cSs_lay 26 = .ok (.aload_n 2, 1) := by decide +kernel
theorem dSs_lay_27 : decode cSs_lay 27 = .ok (.iload_n 3, 1) := by decide +kernel
theorem dSs_lay_28 : decode cSs_lay 28 = .ok (.i2l, 1) := by decide +kernel
theorem dSs_lay_29 : decode cSs_lay 29 = .ok (.bipush 8, 2) := by decide +kernel
theorem dSs_lay_31 : decode cSs_lay 31 = .ok (.invokevirtual 29, 3) := by decide +kernel
theorem dSs_lay_34 : decode cSs_lay 34 = .ok (.iconst 1, 1) := by decide +kernel
theorem dSs_lay_35 : decode cSs_lay 35 = .ok (.istore 4, 2) := by decide +kernel
theorem dSs_lay_37 : decode cSs_lay 37 = .ok (.iload 4, 2) := by decide +kernel
theorem dSs_lay_39 : decode cSs_lay 39 = .ok (.aload_n 1, 1) := by decide +kernel
theorem dSs_lay_40 : decode cSs_lay 40 = .ok (.getfield 9, 3) := by decide +kernel
theorem dSs_lay_43 : decode cSs_lay 43 = .ok (.if_icmp .ge 34, 3) := by decide +kernel
theorem dSs_lay_46 : decode cSs_lay 46 = .ok (.aload_n 2, 1) := by decide +kernel
theorem dSs_lay_47 : decode cSs_lay 47 = .ok (.aload_n 1, 1) := by decide +kernel
theorem dSs_lay_48 : decode cSs_lay 48 = .ok (.iload 4, 2) := by decide +kernel
theorem dSs_lay_50 : decode cSs_lay 50 = .ok (.invokevirtual 25, 3) := by decide +kernel
theorem dSs_lay_53 : decode cSs_lay 53 = .ok (.aload_n 1, 1) := by decide +kernel
theorem dSs_lay_54 : decode cSs_lay 54 = .ok (.iload 4, 2) := by decide +kernel
theorem dSs_lay_56 : decode cSs_lay 56 = .ok (.iconst 1, 1) := by decide +kernel
theorem dSs_lay_57 : decode cSs_lay 57 = .ok (.isub, 1) := by decide +kernel
theorem dSs_lay_58 : decode cSs_lay 58 = .ok (.invokevirtual 25, 3) := by decide +kernel
theorem dSs_lay_61 : decode cSs_lay 61 = .ok (.lsub, 1) := by decide +kernel
theorem dSs_lay_62 : decode cSs_lay 62 = .ok (.aload_n 1, 1) := by decide +kernel
theorem dSs_lay_63 : decode cSs_lay 63 = .ok (.getfield 35, 3) := by decide +kernel
theorem dSs_lay_66 : decode cSs_lay 66 = .ok (.lsub, 1) := by decide +kernel
theorem dSs_lay_67 : decode cSs_lay 67 = .ok (.iload_n 3, 1) := by decide +kernel
theorem dSs_lay_68 : decode cSs_lay 68 = .ok (.invokevirtual 29, 3) := by decide +kernel
theorem dSs_lay_71 : decode cSs_lay 71 = .ok (.iinc 4 1, 3) := by decide +kernel
theorem dSs_lay_74 : decode cSs_lay 74 = .ok (.goto (-37), 3) := by decide +kernel
theorem dSs_lay_77 : decode cSs_lay 77 = .ok (.return_, 1) := by decide +kernel
theorem dCf_writeAs_0 : decode cCf_writeAs 0 = .ok (.iload_n 1, 1) := by decide +kernel
theorem dCf_writeAs_1 : decode cCf_writeAs 1 = .ok (.invokestatic 75, 3) := by decide +kernel
theorem dCf_writeAs_4 : decode cCf_writeAs 4 = .ok (.aload_n 0, 1) := by decide +kernel
theorem dCf_writeAs_5 : decode cCf_writeAs 5 = .ok (.invokevirtual 79, 3) := by decide +kernel
theorem dCf_writeAs_8 : decode cCf_writeAs 8 = .ok (.aload_n 0, 1) := by decide +kernel
theorem dCf_writeAs_9 : decode cCf_writeAs 9 = .ok (.iload_n 1, 1) := by decide +kernel
theorem dCf_writeAs_10 : decode cCf_writeAs 10 = .ok (.invokevirtual 90, 3) := by decide +kernel
theorem dCf_writeAs_13 : decode cCf_writeAs 13 = .ok (.ireturn, 1) := by decide +kernel
theorem dCf_byteAt_0 : decode cCf_byteAt 0 = .ok (.iload_n 1, 1) := by decide +kernel
theorem dCf_byteAt_1 : decode cCf_byteAt 1 = .ok (.ifCond .lt 14, 3) := by decide +kernel
theorem dCf_byteAt_4 : decode cCf_byteAt 4 = .ok (.iload_n 1, 1) := by decide +kernel
theorem dCf_byteAt_5 : decode cCf_byteAt 5 = .ok (.aload_n 0, 1) := by decide +kernel
theorem dCf_byteAt_6 : decode cCf_byteAt 6 = .ok (.getfield 19, 3) := by decide +kernel
theorem dCf_byteAt_9 : decode cCf_byteAt 9 = .ok (.invokevirtual 94, 3) := by decide +kernel
theorem dCf_byteAt_12 : decode cCf_byteAt 12 = .ok (.if_icmp .lt 13, 3) := by decide +kernel
theorem dCf_byteAt_15 : decode cCf_byteAt 15 = .ok (.new 65, 3) := by decide +kernel
theorem dCf_byteAt_18 : decode cCf_byteAt 18 = .ok (.dup, 1) := by decide +kernel
theorem dCf_byteAt_19 : decode cCf_byteAt 19 = .ok (.ldc 96, 2) := by decide +kernel
theorem dCf_byteAt_21 : decode cCf_byteAt 21 = .ok (.invokespecial 69, 3) := by decide +kernel
theorem dCf_byteAt_24 : decode cCf_byteAt 24 = .ok (.athrow, 1) := by decide +kernel
theorem dCf_byteAt_25 : decode cCf_byteAt 25 = .ok (.aload_n 0, 1) := by decide +kernel
theorem dCf_byteAt_26 : decode cCf_byteAt 26 = .ok (.getfield 19, 3) := by decide +kernel
theorem dCf_byteAt_29 : decode cCf_byteAt 29 = .ok (.iload_n 1, 1) := by decide +kernel
theorem dCf_byteAt_30 : decode cCf_byteAt 30 = .ok (.invokevirtual 98, 3) := by decide +kernel
theorem dCf_byteAt_33 : decode cCf_byteAt 33 = .ok (.ireturn, 1) := by decide +kernel
theorem dBy_octet_0 : decode cBy_octet 0 = .ok (.iload_n 1, 1) := by decide +kernel
theorem dBy_octet_1 : decode cBy_octet 1 = .ok (.ifCond .lt 25, 3) := by decide +kernel
theorem dBy_octet_4 : decode cBy_octet 4 = .ok (.iload_n 1, 1) := by decide +kernel
theorem dBy_octet_5 : decode cBy_octet 5 = .ok (.aload_n 0, 1) := by decide +kernel
theorem dBy_octet_6 : decode cBy_octet 6 = .ok (.getfield 9, 3) := by decide +kernel
theorem dBy_octet_9 : decode cBy_octet 9 = .ok (.arraylength, 1) := by decide +kernel
theorem dBy_octet_10 : decode cBy_octet 10 = .ok (.if_icmp .ge 16, 3) := by decide +kernel
theorem dBy_octet_13 : decode cBy_octet 13 = .ok (.aload_n 0, 1) := by decide +kernel
theorem dBy_octet_14 : decode cBy_octet 14 = .ok (.getfield 9, 3) := by decide +kernel
theorem dBy_octet_17 : decode cBy_octet 17 = .ok (.iload_n 1, 1) := by decide +kernel
theorem dBy_octet_18 : decode cBy_octet 18 = .ok (.baload, 1) := by decide +kernel
theorem dBy_octet_19 : decode cBy_octet 19 = .ok (.sipush 255, 3) := by decide +kernel
theorem dBy_octet_22 : decode cBy_octet 22 = .ok (.iand, 1) := by decide +kernel
theorem dBy_octet_23 : decode cBy_octet 23 = .ok (.goto 4, 3) := by decide +kernel
theorem dBy_octet_26 : decode cBy_octet 26 = .ok (.iconst 0, 1) := by decide +kernel
theorem dBy_octet_27 : decode cBy_octet 27 = .ok (.ireturn, 1) := by decide +kernel
theorem dCf_cell_0 : decode cCf_cell 0 = .ok (.aload_n 0, 1) := by decide +kernel
theorem dCf_cell_1 : decode cCf_cell 1 = .ok (.getfield 44, 3) := by decide +kernel
theorem dCf_cell_4 : decode cCf_cell 4 = .ok (.iconst (-1), 1) := by decide +kernel
theorem dCf_cell_5 : decode cCf_cell 5 = .ok (.if_icmp .eq 15, 3) := by decide +kernel
theorem dCf_cell_8 : decode cCf_cell 8 = .ok (.iload_n 1, 1) := by decide +kernel
theorem dCf_cell_9 : decode cCf_cell 9 = .ok (.ifCond .lt 11, 3) := by decide +kernel
theorem dCf_cell_12 : decode cCf_cell 12 = .ok (.iload_n 1, 1) := by decide +kernel
theorem dCf_cell_13 : decode cCf_cell 13 = .ok (.aload_n 0, 1) := by decide +kernel
theorem dCf_cell_14 : decode cCf_cell 14 = .ok (.getfield 48, 3) := by decide +kernel
theorem dCf_cell_17 : decode cCf_cell 17 = .ok (.if_icmp .lt 13, 3) := by decide +kernel
theorem dCf_cell_20 : decode cCf_cell 20 = .ok (.new 65, 3) := by decide +kernel
theorem dCf_cell_23 : decode cCf_cell 23 = .ok (.dup, 1) := by decide +kernel
theorem dCf_cell_24 : decode cCf_cell 24 = .ok (.ldc 101, 2) := by decide +kernel
theorem dCf_cell_26 : decode cCf_cell 26 = .ok (.invokespecial 69, 3) := by decide +kernel
theorem dCf_cell_29 : decode cCf_cell 29 = .ok (.athrow, 1) := by decide +kernel
theorem dCf_cell_30 : decode cCf_cell 30 = .ok (.aload_n 0, 1) := by decide +kernel
theorem dCf_cell_31 : decode cCf_cell 31 = .ok (.getfield 40, 3) := by decide +kernel
theorem dCf_cell_34 : decode cCf_cell 34 = .ok (.aload_n 0, 1) := by decide +kernel
theorem dCf_cell_35 : decode cCf_cell 35 = .ok (.getfield 44, 3) := by decide +kernel
theorem dCf_cell_38 : decode cCf_cell 38 = .ok (.aaload, 1) := by decide +kernel
theorem dCf_cell_39 : decode cCf_cell 39 = .ok (.aload_n 0, 1) := by decide +kernel
theorem dCf_cell_40 : decode cCf_cell 40 = .ok (.getfield 19, 3) := by decide +kernel
theorem dCf_cell_43 : decode cCf_cell 43 = .ok (.iload_n 1, 1) := by decide +kernel
theorem dCf_cell_44 : decode cCf_cell 44 = .ok (.invokevirtual 103, 3) := by decide +kernel
theorem dCf_cell_47 : decode cCf_cell 47 = .ok (.lreturn, 1) := by decide +kernel
theorem dLi_read_0 : decode cLi_read 0 = .ok (.aload_n 1, 1) := by decide +kernel
theorem dLi_read_1 : decode cLi_read 1 = .ok (.invokestatic 51, 3) := by decide +kernel
theorem dLi_read_4 : decode cLi_read 4 = .ok (.istore_n 3, 1) := by decide +kernel
theorem dLi_read_5 : decode cLi_read 5 = .ok (.iload_n 3, 1) := by decide +kernel
theorem dLi_read_6 : decode cLi_read 6 = .ok (.iconst 1, 1) := by decide +kernel
theorem dLi_read_7 : decode cLi_read 7 = .ok (.isub, 1) := by decide +kernel
theorem dLi_read_8 : decode cLi_read 8 = .ok (.i2l, 1) := by decide +kernel
theorem dLi_read_9 : decode cLi_read 9 = .ok (.invokestatic 28, 3) := by decide +kernel
theorem dLi_read_12 : decode cLi_read 12 = .ok (.istore 4, 2) := by decide +kernel
theorem dLi_read_14 : decode cLi_read 14 = .ok (.aload_n 1, 1) := by decide +kernel
theorem dLi_read_15 : decode cLi_read 15 = .ok (.aload_n 1, 1) := by decide +kernel
theorem dLi_read_16 : decode cLi_read 16 = .ok (.iload_n 3, 1) := by decide +kernel
theorem dLi_read_17 : decode cLi_read 17 = .ok (.invokestatic 21, 3) := by decide +kernel
theorem dLi_read_20 : decode cLi_read 20 = .ok (.iload_n 2, 1) := by decide +kernel
theorem dLi_read_21 : decode cLi_read 21 = .ok (.iload 4, 2) := by decide +kernel
theorem dLi_read_23 : decode cLi_read 23 = .ok (.imul, 1) := by decide +kernel
theorem dLi_read_24 : decode cLi_read 24 = .ok (.iadd, 1) := by decide +kernel
theorem dLi_read_25 : decode cLi_read 25 = .ok (.iload 4, 2) := by decide +kernel
theorem dLi_read_27 : decode cLi_read 27 = .ok (.invokevirtual 55, 3) := by decide +kernel
theorem dLi_read_30 : decode cLi_read 30 = .ok (.l2i, 1) := by decide +kernel
theorem dLi_read_31 : decode cLi_read 31 = .ok (.invokestatic 59, 3) := by decide +kernel
theorem dLi_read_34 : decode cLi_read 34 = .ok (.lreturn, 1) := by decide +kernel
theorem dLi_differentIn_0 : decode cLi_differentIn 0 = .ok (.aload_n 0, 1) := by decide +kernel
theorem dLi_differentIn_1 : decode cLi_differentIn 1 = .ok (.iconst 0, 1) := by decide +kernel
theorem dLi_differentIn_2 : decode cLi_differentIn 2 = .ok (.bipush 16, 2) := by decide +kernel
theorem dLi_differentIn_4 : decode cLi_differentIn 4 = .ok (.invokevirtual 55, 3) := by decide +kernel
theorem dLi_differentIn_7 : decode cLi_differentIn 7 = .ok (.l2i, 1) := by decide +kernel
theorem dLi_differentIn_8 : decode cLi_differentIn 8 = .ok (.ireturn, 1) := by decide +kernel
theorem dBy_bitsAt_0 : decode cBy_bitsAt 0 = .ok (.lconst 0, 1) := by decide +kernel
theorem dBy_bitsAt_1 : decode cBy_bitsAt 1 = .ok (.lstore_n 3, 1) := by decide +kernel
theorem dBy_bitsAt_2 : decode cBy_bitsAt 2 = .ok (.iload_n 1, 1) := by decide +kernel
theorem dBy_bitsAt_3 : decode cBy_bitsAt 3 = .ok (.istore 5, 2) := by decide +kernel
theorem dBy_bitsAt_5 : decode cBy_bitsAt 5 = .ok (.iload_n 2, 1) := by decide +kernel
theorem dBy_bitsAt_6 : decode cBy_bitsAt 6 = .ok (.istore 6, 2) := by decide +kernel
theorem dBy_bitsAt_8 : decode cBy_bitsAt 8 = .ok (.iconst 0, 1) := by decide +kernel
theorem dBy_bitsAt_9 : decode cBy_bitsAt 9 = .ok (.istore 7, 2) := by decide +kernel
theorem dBy_bitsAt_11 : decode cBy_bitsAt 11 = .ok (.iload 7, 2) := by decide +kernel
theorem dBy_bitsAt_13 : decode cBy_bitsAt 13 = .ok (.bipush 9, 2) := by decide +kernel
theorem dBy_bitsAt_15 : decode cBy_bitsAt 15 = .ok (.if_icmp .ge 79, 3) := by decide +kernel
theorem dBy_bitsAt_18 : decode cBy_bitsAt 18 = .ok (.iload 6, 2) := by decide +kernel
theorem dBy_bitsAt_20 : decode cBy_bitsAt 20 = .ok (.ifCond .le 74, 3) := by decide +kernel
theorem dBy_bitsAt_23 : decode cBy_bitsAt 23 = .ok (.bipush 8, 2) := by decide +kernel
theorem dBy_bitsAt_25 : decode cBy_bitsAt 25 = .ok (.iload 5, 2) := by decide +kernel
theorem dBy_bitsAt_27 : decode cBy_bitsAt 27 = .ok (.bipush 7, 2) := by decide +kernel
theorem dBy_bitsAt_29 : decode cBy_bitsAt 29 = .ok (.iand, 1) := by decide +kernel
theorem dBy_bitsAt_30 : decode cBy_bitsAt 30 = .ok (.isub, 1) := by decide +kernel
theorem dBy_bitsAt_31 : decode cBy_bitsAt 31 = .ok (.istore 8, 2) := by decide +kernel
theorem dBy_bitsAt_33 : decode cBy_bitsAt 33 = .ok (.iload 8, 2) := by decide +kernel
theorem dBy_bitsAt_35 : decode cBy_bitsAt 35 = .ok (.iload 6, 2) := by decide +kernel
theorem dBy_bitsAt_37 : decode cBy_bitsAt 37 = .ok (.invokestatic 23, 3) := by decide +kernel
theorem dBy_bitsAt_40 : decode cBy_bitsAt 40 = .ok (.istore 9, 2) := by decide +kernel
theorem dBy_bitsAt_42 : decode cBy_bitsAt 42 = .ok (.aload_n 0, 1) := by decide +kernel
theorem dBy_bitsAt_43 : decode cBy_bitsAt 43 = .ok (.iload 5, 2) := by decide +kernel
theorem dBy_bitsAt_45 : decode cBy_bitsAt 45 = .ok (.iconst 3, 1) := by decide +kernel
theorem dBy_bitsAt_46 : decode cBy_bitsAt 46 = .ok (.ishr, 1) := by decide +kernel
theorem dBy_bitsAt_47 : decode cBy_bitsAt 47 = .ok (.invokevirtual 33, 3) := by decide +kernel
theorem dBy_bitsAt_50 : decode cBy_bitsAt 50 = .ok (.iload 8, 2) := by decide +kernel
theorem dBy_bitsAt_52 : decode cBy_bitsAt 52 = .ok (.iload 9, 2) := by decide +kernel
theorem dBy_bitsAt_54 : decode cBy_bitsAt 54 = .ok (.isub, 1) := by decide +kernel
theorem dBy_bitsAt_55 : decode cBy_bitsAt 55 = .ok (.iushr, 1) := by decide +kernel
theorem dBy_bitsAt_56 : decode cBy_bitsAt 56 = .ok (.iconst 1, 1) := by decide +kernel
theorem dBy_bitsAt_57 : decode cBy_bitsAt 57 = .ok (.iload 9, 2) := by decide +kernel
theorem dBy_bitsAt_59 : decode cBy_bitsAt 59 = .ok (.ishl, 1) := by decide +kernel
theorem dBy_bitsAt_60 : decode cBy_bitsAt 60 = .ok (.iconst 1, 1) := by decide +kernel
theorem dBy_bitsAt_61 : decode cBy_bitsAt 61 = .ok (.isub, 1) := by decide +kernel
theorem dBy_bitsAt_62 : decode cBy_bitsAt 62 = .ok (.iand, 1) := by decide +kernel
theorem dBy_bitsAt_63 : decode cBy_bitsAt 63 = .ok (.istore 10, 2) := by decide +kernel
theorem dBy_bitsAt_65 : decode cBy_bitsAt 65 = .ok (.lload_n 3, 1) := by decide +kernel
theorem dBy_bitsAt_66 : decode cBy_bitsAt 66 = .ok (.iload 9, 2) := by decide +kernel
theorem dBy_bitsAt_68 : decode cBy_bitsAt 68 = .ok (.lshl, 1) := by decide +kernel
theorem dBy_bitsAt_69 : decode cBy_bitsAt 69 = .ok (.iload 10, 2) := by decide +kernel
theorem dBy_bitsAt_71 : decode cBy_bitsAt 71 = .ok (.i2l, 1) := by decide +kernel
theorem dBy_bitsAt_72 : decode cBy_bitsAt 72 = .ok (.lor, 1) := by decide +kernel
theorem dBy_bitsAt_73 : decode cBy_bitsAt 73 = .ok (.lstore_n 3, 1) := by decide +kernel
theorem dBy_bitsAt_74 : decode cBy_bitsAt 74 = .ok (.iload 5, 2) := by decide +kernel
theorem dBy_bitsAt_76 : decode cBy_bitsAt 76 = .ok (.iload 9, 2) := by decide +kernel
theorem dBy_bitsAt_78 : decode cBy_bitsAt 78 = .ok (.iadd, 1) := by decide +kernel
theorem dBy_bitsAt_79 : decode cBy_bitsAt 79 = .ok (.istore 5, 2) := by decide +kernel
theorem dBy_bitsAt_81 : decode cBy_bitsAt 81 = .ok (.iload 6, 2) := by decide +kernel
theorem dBy_bitsAt_83 : decode cBy_bitsAt 83 = .ok (.iload 9, 2) := by decide +kernel
theorem dBy_bitsAt_85 : decode cBy_bitsAt 85 = .ok (.isub, 1) := by decide +kernel
theorem dBy_bitsAt_86 : decode cBy_bitsAt 86 = .ok (.istore 6, 2) := by decide +kernel
theorem dBy_bitsAt_88 : decode cBy_bitsAt 88 = .ok (.iinc 7 1, 3) := by decide +kernel
theorem dBy_bitsAt_91 : decode cBy_bitsAt 91 = .ok (.goto (-80), 3) := by decide +kernel
theorem dBy_bitsAt_94 : decode cBy_bitsAt 94 = .ok (.lload_n 3, 1) := by decide +kernel
theorem dBy_bitsAt_95 : decode cBy_bitsAt 95 = .ok (.lreturn, 1) := by decide +kernel
theorem dLi_listedAt_0 : decode cLi_listedAt 0 = .ok (.aload_n 0, 1) := by decide +kernel
theorem dLi_listedAt_1 : decode cLi_listedAt 1 = .ok (.bipush 16, 2) := by decide +kernel
theorem dLi_listedAt_3 : decode cLi_listedAt 3 = .ok (.bipush 64, 2) := by decide +kernel
theorem dLi_listedAt_5 : decode cLi_listedAt 5 = .ok (.iload_n 1, 1) := by decide +kernel
theorem dLi_listedAt_6 : decode cLi_listedAt 6 = .ok (.imul, 1) := by decide +kernel
theorem dLi_listedAt_7 : decode cLi_listedAt 7 = .ok (.iadd, 1) := by decide +kernel
theorem dLi_listedAt_8 : decode cLi_listedAt 8 = .ok (.bipush 64, 2) := by decide +kernel
theorem dLi_listedAt_10 : decode cLi_listedAt 10 = .ok (.invokevirtual 55, 3) := by decide +kernel
theorem dLi_listedAt_13 : decode cLi_listedAt 13 = .ok (.lreturn, 1) := by decide +kernel
theorem dPa_read_0 : decode cPa_read 0 = .ok (.aload_n 1, 1) := by decide +kernel
theorem dPa_read_1 : decode cPa_read 1 = .ok (.bipush 64, 2) := by decide +kernel
theorem dPa_read_3 : decode cPa_read 3 = .ok (.bipush 8, 2) := by decide +kernel
theorem dPa_read_5 : decode cPa_read 5 = .ok (.invokevirtual 39, 3) := by decide +kernel
theorem dPa_read_8 : decode cPa_read 8 = .ok (.l2i, 1) := by decide +kernel
theorem dPa_read_9 : decode cPa_read 9 = .ok (.istore_n 3, 1) := by decide +kernel
theorem dPa_read_10 : decode cPa_read 10 = .ok (.aload_n 1, 1) := by decide +kernel
theorem dPa_read_11 : decode cPa_read 11 = .ok (.iconst 0, 1) := by decide +kernel
theorem dPa_read_12 : decode cPa_read 12 = .ok (.bipush 64, 2) := by decide +kernel
theorem dPa_read_14 : decode cPa_read 14 = .ok (.invokevirtual 39, 3) := by decide +kernel
theorem dPa_read_17 : decode cPa_read 17 = .ok (.aload_n 1, 1) := by decide +kernel
theorem dPa_read_18 : decode cPa_read 18 = .ok (.bipush 72, 2) := by decide +kernel
theorem dPa_read_20 : decode cPa_read 20 = .ok (.iload_n 2, 1) := by decide +kernel
theorem dPa_read_21 : decode cPa_read 21 = .ok (.iload_n 3, 1) := by decide +kernel
theorem dPa_read_22 : decode cPa_read 22 = .ok (.imul, 1) := by decide +kernel
theorem dPa_read_23 : decode cPa_read 23 = .ok (.iadd, 1) := by decide +kernel
theorem dPa_read_24 : decode cPa_read 24 = .ok (.iload_n 3, 1) := by decide +kernel
theorem dPa_read_25 : decode cPa_read 25 = .ok (.invokevirtual 39, 3) := by decide +kernel
theorem dPa_read_28 : decode cPa_read 28 = .ok (.ladd, 1) := by decide +kernel
theorem dPa_read_29 : decode cPa_read 29 = .ok (.lreturn, 1) := by decide +kernel
theorem dPl_read_0 : decode cPl_read 0 = .ok (.aload_n 1, 1) := by decide +kernel
theorem dPl_read_1 : decode cPl_read 1 = .ok (.bipush 64, 2) := by decide +kernel
theorem dPl_read_3 : decode cPl_read 3 = .ok (.iload_n 2, 1) := by decide +kernel
theorem dPl_read_4 : decode cPl_read 4 = .ok (.imul, 1) := by decide +kernel
theorem dPl_read_5 : decode cPl_read 5 = .ok (.bipush 64, 2) := by decide +kernel
theorem dPl_read_7 : decode cPl_read 7 = .ok (.invokevirtual 23, 3) := by decide +kernel
theorem dPl_read_10 : decode cPl_read 10 = .ok (.lreturn, 1) := by decide +kernel
theorem dRu_read_0 : decode cRu_read 0 = .ok (.aload_n 1, 1) := by decide +kernel
theorem dRu_read_1 : decode cRu_read 1 = .ok (.invokestatic 34, 3) := by decide +kernel
theorem dRu_read_4 : decode cRu_read 4 = .ok (.istore_n 3, 1) := by decide +kernel
theorem dRu_read_5 : decode cRu_read 5 = .ok (.iconst 0, 1) := by decide +kernel
theorem dRu_read_6 : decode cRu_read 6 = .ok (.istore 4, 2) := by decide +kernel
theorem dRu_read_8 : decode cRu_read 8 = .ok (.iconst 0, 1) := by decide +kernel
theorem dRu_read_9 : decode cRu_read 9 = .ok (.istore 5, 2) := by decide +kernel
theorem dRu_read_11 : decode cRu_read 11 = .ok (.iload 5, 2) := by decide +kernel
theorem dRu_read_13 : decode cRu_read 13 = .ok (.iload_n 3, 1) := by decide +kernel
theorem dRu_read_14 : decode cRu_read 14 = .ok (.if_icmp .ge 33, 3) := by decide +kernel
theorem dRu_read_17 : decode cRu_read 17 = .ok (.iload 4, 2) := by decide +kernel
theorem dRu_read_19 : decode cRu_read 19 = .ok (.aload_n 1, 1) := by decide +kernel
theorem dRu_read_20 : decode cRu_read 20 = .ok (.iload 5, 2) := by decide +kernel
theorem dRu_read_22 : decode cRu_read 22 = .ok (.invokestatic 38, 3) := by decide +kernel
theorem dRu_read_25 : decode cRu_read 25 = .ok (.iadd, 1) := by decide +kernel
theorem dRu_read_26 : decode cRu_read 26 = .ok (.istore 4, 2) := by decide +kernel
theorem dRu_read_28 : decode cRu_read 28 = .ok (.iload_n 2, 1) := by decide +kernel
theorem dRu_read_29 : decode cRu_read 29 = .ok (.iload 4, 2) := by decide +kernel
theorem dRu_read_31 : decode cRu_read 31 = .ok (.if_icmp .ge 10, 3) := by decide +kernel
theorem dRu_read_34 : decode cRu_read 34 = .ok (.aload_n 1, 1) := by decide +kernel
theorem dRu_read_35 : decode cRu_read 35 = .ok (.iload 5, 2) := by decide +kernel
theorem dRu_read_37 : decode cRu_read 37 = .ok (.invokestatic 42, 3) := by decide +kernel
theorem dRu_read_40 : decode cRu_read 40 = .ok (.lreturn, 1) := by decide +kernel
theorem dRu_read_41 : decode cRu_read 41 = .ok (.iinc 5 1, 3) := by decide +kernel
theorem dRu_read_44 : decode cRu_read 44 = .ok (.goto (-33), 3) := by decide +kernel
theorem dRu_read_47 : decode cRu_read 47 = .ok (.lconst 0, 1) := by decide +kernel
theorem dRu_read_48 : decode cRu_read 48 = .ok (.lreturn, 1) := by decide +kernel
theorem dRu_runsIn_0 : decode cRu_runsIn 0 = .ok (.aload_n 0, 1) := by decide +kernel
theorem dRu_runsIn_1 : decode cRu_runsIn 1 = .ok (.iconst 0, 1) := by decide +kernel
theorem dRu_runsIn_2 : decode cRu_runsIn 2 = .ok (.bipush 16, 2) := by decide +kernel
theorem dRu_runsIn_4 : decode cRu_runsIn 4 = .ok (.invokevirtual 51, 3) := by decide +kernel
theorem dRu_runsIn_7 : decode cRu_runsIn 7 = .ok (.l2i, 1) := by decide +kernel
theorem dRu_runsIn_8 : decode cRu_runsIn 8 = .ok (.ireturn, 1) := by decide +kernel
theorem dRu_lengthOf_0 : decode cRu_lengthOf 0 = .ok (.aload_n 0, 1) := by decide +kernel
theorem dRu_lengthOf_1 : decode cRu_lengthOf 1 = .ok (.bipush 16, 2) := by decide +kernel
theorem dRu_lengthOf_3 : decode cRu_lengthOf 3 = .ok (.bipush 80, 2) := by decide +kernel
theorem dRu_lengthOf_5 : decode cRu_lengthOf 5 = .ok (.iload_n 1, 1) := by decide +kernel
theorem dRu_lengthOf_6 : decode cRu_lengthOf 6 = .ok (.imul, 1) := by decide +kernel
theorem dRu_lengthOf_7 : decode cRu_lengthOf 7 = .ok (.iadd, 1) := by decide +kernel
theorem dRu_lengthOf_8 : decode cRu_lengthOf 8 = .ok (.bipush 64, 2) := by decide +kernel
theorem dRu_lengthOf_10 : decode cRu_lengthOf 10 = .ok (.iadd, 1) := by decide +kernel
theorem dRu_lengthOf_11 : decode cRu_lengthOf 11 = .ok (.bipush 16, 2) := by decide +kernel
theorem dRu_lengthOf_13 : decode cRu_lengthOf 13 = .ok (.invokevirtual 51, 3) := by decide +kernel
theorem dRu_lengthOf_16 : decode cRu_lengthOf 16 = .ok (.l2i, 1) := by decide +kernel
theorem dRu_lengthOf_17 : decode cRu_lengthOf 17 = .ok (.ireturn, 1) := by decide +kernel
theorem dRu_cellOf_0 : decode cRu_cellOf 0 = .ok (.aload_n 0, 1) := by decide +kernel
theorem dRu_cellOf_1 : decode cRu_cellOf 1 = .ok (.bipush 16, 2) := by decide +kernel
theorem dRu_cellOf_3 : decode cRu_cellOf 3 = .ok (.bipush 80, 2) := by decide +kernel
theorem dRu_cellOf_5 : decode cRu_cellOf 5 = .ok (.iload_n 1, 1) := by decide +kernel
theorem dRu_cellOf_6 : decode cRu_cellOf 6 = .ok (.imul, 1) := by decide +kernel
theorem dRu_cellOf_7 : decode cRu_cellOf 7 = .ok (.iadd, 1) := by decide +kernel
theorem dRu_cellOf_8 : decode cRu_cellOf 8 = .ok (.bipush 64, 2) := by decide +kernel
theorem dRu_cellOf_10 : decode cRu_cellOf 10 = .ok (.invokevirtual 51, 3) := by decide +kernel
theorem dRu_cellOf_13 : decode cRu_cellOf 13 = .ok (.lreturn, 1) := by decide +kernel
theorem dSs_read_0 : decode cSs_read 0 = .ok (.aload_n 1, 1) := by decide +kernel
theorem dSs_read_1 : decode cSs_read 1 = .ok (.invokestatic 39, 3) := by decide +kernel
theorem dSs_read_4 : decode cSs_read 4 = .ok (.istore_n 3, 1) := by decide +kernel
theorem dSs_read_5 : decode cSs_read 5 = .ok (.aload_n 1, 1) := by decide +kernel
theorem dSs_read_6 : decode cSs_read 6 = .ok (.iconst 0, 1) := by decide +kernel
theorem dSs_read_7 : decode cSs_read 7 = .ok (.bipush 64, 2) := by decide +kernel
theorem dSs_read_9 : decode cSs_read 9 = .ok (.invokevirtual 43, 3) := by decide +kernel
theorem dSs_read_12 : decode cSs_read 12 = .ok (.iload_n 2, 1) := by decide +kernel
theorem dSs_read_13 : decode cSs_read 13 = .ok (.i2l, 1) := by decide +kernel
theorem dSs_read_14 : decode cSs_read 14 = .ok (.aload_n 1, 1) := by decide +kernel
theorem dSs_read_15 : decode cSs_read 15 = .ok (.bipush 64, 2) := by decide +kernel
theorem dSs_read_17 : decode cSs_read 17 = .ok (.bipush 64, 2) := by decide +kernel
theorem dSs_read_19 : decode cSs_read 19 = .ok (.invokevirtual 43, 3) := by decide +kernel
theorem dSs_read_22 : decode cSs_read 22 = .ok (.lmul, 1) := by decide +kernel
theorem dSs_read_23 : decode cSs_read 23 = .ok (.ladd, 1) := by decide +kernel
theorem dSs_read_24 : decode cSs_read 24 = .ok (.lstore 4, 2) := by decide +kernel
theorem dSs_read_26 : decode cSs_read 26 = .ok (.iconst 0, 1) := by decide +kernel
theorem dSs_read_27 : decode cSs_read 27 = .ok (.istore 6, 2) := by decide +kernel
theorem dSs_read_29 : decode cSs_read 29 = .ok (.iload 6, 2) := by decide +kernel
theorem dSs_read_31 : decode cSs_read 31 = .ok (.iload_n 2, 1) := by decide +kernel
theorem dSs_read_32 : decode cSs_read 32 = .ok (.if_icmp .ge 27, 3) := by decide +kernel
theorem dSs_read_35 : decode cSs_read 35 = .ok (.lload 4, 2) := by decide +kernel
theorem dSs_read_37 : decode cSs_read 37 = .ok (.aload_n 1, 1) := by decide +kernel
theorem dSs_read_38 : decode cSs_read 38 = .ok (.sipush 136, 3) := by decide +kernel
theorem dSs_read_41 : decode cSs_read 41 = .ok (.iload 6, 2) := by decide +kernel
theorem dSs_read_43 : decode cSs_read 43 = .ok (.iload_n 3, 1) := by decide +kernel
theorem dSs_read_44 : decode cSs_read 44 = .ok (.imul, 1) := by decide +kernel
theorem dSs_read_45 : decode cSs_read 45 = .ok (.iadd, 1) := by decide +kernel
theorem dSs_read_46 : decode cSs_read 46 = .ok (.iload_n 3, 1) := by decide +kernel
theorem dSs_read_47 : decode cSs_read 47 = .ok (.invokevirtual 43, 3) := by decide +kernel
theorem dSs_read_50 : decode cSs_read 50 = .ok (.ladd, 1) := by decide +kernel
theorem dSs_read_51 : decode cSs_read 51 = .ok (.lstore 4, 2) := by decide +kernel
theorem dSs_read_53 : decode cSs_read 53 = .ok (.iinc 6 1, 3) := by decide +kernel
theorem dSs_read_56 : decode cSs_read 56 = .ok (.goto (-27), 3) := by decide +kernel
theorem dSs_read_59 : decode cSs_read 59 = .ok (.lload 4, 2) := by decide +kernel
theorem dSs_read_61 : decode cSs_read 61 = .ok (.lreturn, 1) := by decide +kernel
theorem dSs_widthIn_0 : decode cSs_widthIn 0 = .ok (.aload_n 0, 1) := by decide +kernel
theorem dSs_widthIn_1 : decode cSs_widthIn 1 = .ok (.sipush 128, 3) := by decide +kernel
theorem dSs_widthIn_4 : decode cSs_widthIn 4 = .ok (.bipush 8, 2) := by decide +kernel
theorem dSs_widthIn_6 : decode cSs_widthIn 6 = .ok (.invokevirtual 43, 3) := by decide +kernel
theorem dSs_widthIn_9 : decode cSs_widthIn 9 = .ok (.l2i, 1) := by decide +kernel
theorem dSs_widthIn_10 : decode cSs_widthIn 10 = .ok (.ireturn, 1) := by decide +kernel
theorem dCf_count_0 : decode cCf_count 0 = .ok (.iload_n 1, 1) := by decide +kernel
theorem dCf_count_1 : decode cCf_count 1 = .ok (.ifCond .lt 8, 3) := by decide +kernel
theorem dCf_count_4 : decode cCf_count 4 = .ok (.iload_n 1, 1) := by decide +kernel
theorem dCf_count_5 : decode cCf_count 5 = .ok (.iconst 4, 1) := by decide +kernel
theorem dCf_count_6 : decode cCf_count 6 = .ok (.if_icmp .lt 13, 3) := by decide +kernel
theorem dCf_count_9 : decode cCf_count 9 = .ok (.new 65, 3) := by decide +kernel
theorem dCf_count_12 : decode cCf_count 12 = .ok (.dup, 1) := by decide +kernel
theorem dCf_count_13 : decode cCf_count 13 = .ok (.ldc 107, 2) := by decide +kernel
theorem dCf_count_15 : decode cCf_count 15 = .ok (.invokespecial 69, 3) := by decide +kernel
theorem dCf_count_18 : decode cCf_count 18 = .ok (.athrow, 1) := by decide +kernel
theorem dCf_count_19 : decode cCf_count 19 = .ok (.aload_n 0, 1) := by decide +kernel
theorem dCf_count_20 : decode cCf_count 20 = .ok (.invokevirtual 109, 3) := by decide +kernel
theorem dCf_count_23 : decode cCf_count 23 = .ok (.new 112, 3) := by decide +kernel
theorem dCf_count_26 : decode cCf_count 26 = .ok (.dup, 1) := by decide +kernel
theorem dCf_count_27 : decode cCf_count 27 = .ok (.iload_n 1, 1) := by decide +kernel
theorem dCf_count_28 : decode cCf_count 28 = .ok (.lload_n 2, 1) := by decide +kernel
theorem dCf_count_29 : decode cCf_count 29 = .ok (.lload_n 2, 1) := by decide +kernel
theorem dCf_count_30 : decode cCf_count 30 = .ok (.invokespecial 114, 3) := by decide +kernel
theorem dCf_count_33 : decode cCf_count 33 = .ok (.astore 4, 2) := by decide +kernel
theorem dCf_count_35 : decode cCf_count 35 = .ok (.aload_n 0, 1) := by decide +kernel
theorem dCf_count_36 : decode cCf_count 36 = .ok (.getfield 40, 3) := by decide +kernel
theorem dCf_count_39 : decode cCf_count 39 = .ok (.aload_n 0, 1) := by decide +kernel
theorem dCf_count_40 : decode cCf_count 40 = .ok (.getfield 44, 3) := by decide +kernel
theorem dCf_count_43 : decode cCf_count 43 = .ok (.aaload, 1) := by decide +kernel
theorem dCf_count_44 : decode cCf_count 44 = .ok (.aload_n 0, 1) := by decide +kernel
theorem dCf_count_45 : decode cCf_count 45 = .ok (.getfield 19, 3) := by decide +kernel
theorem dCf_count_48 : decode cCf_count 48 = .ok (.aload_n 0, 1) := by decide +kernel
theorem dCf_count_49 : decode cCf_count 49 = .ok (.getfield 48, 3) := by decide +kernel
theorem dCf_count_52 : decode cCf_count 52 = .ok (.aload 4, 2) := by decide +kernel
theorem dCf_count_54 : decode cCf_count 54 = .ok (.invokevirtual 117, 3) := by decide +kernel
theorem dCf_count_57 : decode cCf_count 57 = .ok (.aload 4, 2) := by decide +kernel
theorem dCf_count_59 : decode cCf_count 59 = .ok (.getfield 121, 3) := by decide +kernel
theorem dCf_count_62 : decode cCf_count 62 = .ok (.ireturn, 1) := by decide +kernel
theorem dCf_refuseNoColumn_0 : decode cCf_refuseNoColumn 0 = .ok (.aload_n 0, 1) := by decide +kernel
theorem dCf_refuseNoColumn_1 : decode cCf_refuseNoColumn 1 = .ok (.getfield 44, 3) := by decide +kernel
theorem dCf_refuseNoColumn_4 : decode cCf_refuseNoColumn 4 = .ok (.iconst (-1), 1) := by decide +kernel
theorem dCf_refuseNoColumn_5 : decode cCf_refuseNoColumn 5 = .ok (.if_icmp .ne 13, 3) := by decide +kernel
theorem dCf_refuseNoColumn_8 : decode cCf_refuseNoColumn 8 = .ok (.new 54, 3) := by decide +kernel
theorem dCf_refuseNoColumn_11 : decode cCf_refuseNoColumn 11 = .ok (.dup, 1) := by decide +kernel
theorem dCf_refuseNoColumn_12 : decode cCf_refuseNoColumn 12 = .ok (.ldc 132, 2) := by decide +kernel
theorem dCf_refuseNoColumn_14 : decode cCf_refuseNoColumn 14 = .ok (.invokespecial 58, 3) := by decide +kernel
theorem dCf_refuseNoColumn_17 : decode cCf_refuseNoColumn 17 = .ok (.athrow, 1) := by decide +kernel
theorem dCf_refuseNoColumn_18 : decode cCf_refuseNoColumn 18 = .ok (.return_, 1) := by decide +kernel
theorem dQu_init_0 : decode cQu_init 0 = .ok (.aload_n 0, 1) := by decide +kernel
theorem dQu_init_1 : decode cQu_init 1 = .ok (.invokespecial 1, 3) := by decide +kernel
theorem dQu_init_4 : decode cQu_init 4 = .ok (.aload_n 0, 1) := by decide +kernel
theorem dQu_init_5 : decode cQu_init 5 = .ok (.iload_n 1, 1) := by decide +kernel
theorem dQu_init_6 : decode cQu_init 6 = .ok (.putfield 7, 3) := by decide +kernel
theorem dQu_init_9 : decode cQu_init 9 = .ok (.aload_n 0, 1) := by decide +kernel
theorem dQu_init_10 : decode cQu_init 10 = .ok (.lload_n 2, 1) := by decide +kernel
theorem dQu_init_11 : decode cQu_init 11 = .ok (.putfield 13, 3) := by decide +kernel
theorem dQu_init_14 : decode cQu_init 14 = .ok (.aload_n 0, 1) := by decide +kernel
theorem dQu_init_15 : decode cQu_init 15 = .ok (.lload 4, 2) := by decide +kernel
theorem dQu_init_17 : decode cQu_init 17 = .ok (.putfield 17, 3) := by decide +kernel
theorem dQu_init_20 : decode cQu_init 20 = .ok (.return_, 1) := by decide +kernel
theorem dLi_askAll_0 : decode cLi_askAll 0 = .ok (.aload_n 1, 1) := by decide +kernel
theorem dLi_askAll_1 : decode cLi_askAll 1 = .ok (.invokestatic 51, 3) := by decide +kernel
theorem dLi_askAll_4 : decode cLi_askAll 4 = .ok (.aload_n 0, 1) := by decide +kernel
theorem dLi_askAll_5 : decode cLi_askAll 5 = .ok (.getfield 9, 3) := by decide +kernel
theorem dLi_askAll_8 : decode cLi_askAll 8 = .ok (.arraylength, 1) := by decide +kernel
theorem dLi_askAll_9 : decode cLi_askAll 9 = .ok (.invokestatic 63, 3) := by decide +kernel
theorem dLi_askAll_12 : decode cLi_askAll 12 = .ok (.istore 4, 2) := by decide +kernel
theorem dLi_askAll_14 : decode cLi_askAll 14 = .ok (.aload_n 0, 1) := by decide +kernel
theorem dLi_askAll_15 : decode cLi_askAll 15 = .ok (.aload_n 1, 1) := by decide +kernel
theorem dLi_askAll_16 : decode cLi_askAll 16 = .ok (.iload_n 2, 1) := by decide +kernel
theorem dLi_askAll_17 : decode cLi_askAll 17 = .ok (.iload 4, 2) := by decide +kernel
theorem dLi_askAll_19 : decode cLi_askAll 19 = .ok (.invokevirtual 69, 3) := by decide +kernel
theorem dLi_askAll_22 : decode cLi_askAll 22 = .ok (.iconst 0, 1) := by decide +kernel
theorem dLi_askAll_23 : decode cLi_askAll 23 = .ok (.istore 5, 2) := by decide +kernel
theorem dLi_askAll_25 : decode cLi_askAll 25 = .ok (.iload 5, 2) := by decide +kernel
theorem dLi_askAll_27 : decode cLi_askAll 27 = .ok (.iload 4, 2) := by decide +kernel
theorem dLi_askAll_29 : decode cLi_askAll 29 = .ok (.if_icmp .ge 26, 3) := by decide +kernel
theorem dLi_askAll_32 : decode cLi_askAll 32 = .ok (.aload_n 3, 1) := by decide +kernel
theorem dLi_askAll_33 : decode cLi_askAll 33 = .ok (.aload_n 1, 1) := by decide +kernel
theorem dLi_askAll_34 : decode cLi_askAll 34 = .ok (.iload 5, 2) := by decide +kernel
theorem dLi_askAll_36 : decode cLi_askAll 36 = .ok (.invokestatic 59, 3) := by decide +kernel
theorem dLi_askAll_39 : decode cLi_askAll 39 = .ok (.aload_n 0, 1) := by decide +kernel
theorem dLi_askAll_40 : decode cLi_askAll 40 = .ok (.getfield 9, 3) := by decide +kernel
theorem dLi_askAll_43 : decode cLi_askAll 43 = .ok (.iload 5, 2) := by decide +kernel
theorem dLi_askAll_45 : decode cLi_askAll 45 = .ok (.iaload, 1) := by decide +kernel
theorem dLi_askAll_46 : decode cLi_askAll 46 = .ok (.invokevirtual 73, 3) := by decide +kernel
theorem dLi_askAll_49 : decode cLi_askAll 49 = .ok (.iinc 5 1, 3) := by decide +kernel
theorem dLi_askAll_52 : decode cLi_askAll 52 = .ok (.goto (-27), 3) := by decide +kernel
theorem dLi_askAll_55 : decode cLi_askAll 55 = .ok (.return_, 1) := by decide +kernel
theorem dLi_countPlaces_0 : decode cLi_countPlaces 0 = .ok (.aload_n 0, 1) := by decide +kernel
theorem dLi_countPlaces_1 : decode cLi_countPlaces 1 = .ok (.getfield 9, 3) := by decide +kernel
theorem dLi_countPlaces_4 : decode cLi_countPlaces 4 = .ok (.iconst 0, 1) := by decide +kernel
theorem dLi_countPlaces_5 : decode cLi_countPlaces 5 = .ok (.invokestatic 78, 3) := by decide +kernel
theorem dLi_countPlaces_8 : decode cLi_countPlaces 8 = .ok (.iload_n 3, 1) := by decide +kernel
theorem dLi_countPlaces_9 : decode cLi_countPlaces 9 = .ok (.iconst 1, 1) := by decide +kernel
theorem dLi_countPlaces_10 : decode cLi_countPlaces 10 = .ok (.isub, 1) := by decide +kernel
theorem dLi_countPlaces_11 : decode cLi_countPlaces 11 = .ok (.i2l, 1) := by decide +kernel
theorem dLi_countPlaces_12 : decode cLi_countPlaces 12 = .ok (.invokestatic 28, 3) := by decide +kernel
theorem dLi_countPlaces_15 : decode cLi_countPlaces 15 = .ok (.istore 4, 2) := by decide +kernel
theorem dLi_countPlaces_17 : decode cLi_countPlaces 17 = .ok (.iload_n 3, 1) := by decide +kernel
theorem dLi_countPlaces_18 : decode cLi_countPlaces 18 = .ok (.invokestatic 21, 3) := by decide +kernel
theorem dLi_countPlaces_21 : decode cLi_countPlaces 21 = .ok (.istore 5, 2) := by decide +kernel
theorem dLi_countPlaces_23 : decode cLi_countPlaces 23 = .ok (.iconst 0, 1) := by decide +kernel
end
section
theorem dLi_countPlaces_24 : decode cLi_countPlaces 24 = .ok (.istore 6, 2) := by decide +kernel
theorem dLi_countPlaces_26 : decode cLi_countPlaces 26 = .ok (.iload 6, 2) := by decide +kernel
theorem dLi_countPlaces_28 : decode cLi_countPlaces 28 = .ok (.iload_n 2, 1) := by decide +kernel
theorem dLi_countPlaces_29 : decode cLi_countPlaces 29 = .ok (.if_icmp .ge 52, 3) := by decide +kernel
theorem dLi_countPlaces_32 : decode cLi_countPlaces 32 = .ok (.aload_n 1, 1) := by decide +kernel
theorem dLi_countPlaces_33 : decode cLi_countPlaces 33 = .ok (.iload 5, 2) := by decide +kernel
theorem dLi_countPlaces_35 : decode cLi_countPlaces 35 = .ok (.iload 6, 2) := by decide +kernel
theorem dLi_countPlaces_37 : decode cLi_countPlaces 37 = .ok (.iload 4, 2) := by decide +kernel
theorem dLi_countPlaces_39 : decode cLi_countPlaces 39 = .ok (.imul, 1) := by decide +kernel
theorem dLi_countPlaces_40 : decode cLi_countPlaces 40 = .ok (.iadd, 1) := by decide +kernel
theorem dLi_countPlaces_41 : decode cLi_countPlaces 41 = .ok (.iload 4, 2) := by decide +kernel
theorem dLi_countPlaces_43 : decode cLi_countPlaces 43 = .ok (.invokevirtual 55, 3) := by decide +kernel
theorem dLi_countPlaces_46 : decode cLi_countPlaces 46 = .ok (.l2i, 1) := by decide +kernel
theorem dLi_countPlaces_47 : decode cLi_countPlaces 47 = .ok (.istore 7, 2) := by decide +kernel
theorem dLi_countPlaces_49 : decode cLi_countPlaces 49 = .ok (.iload 7, 2) := by decide +kernel
theorem dLi_countPlaces_51 : decode cLi_countPlaces 51 = .ok (.ifCond .lt 24, 3) := by decide +kernel
theorem dLi_countPlaces_54 : decode cLi_countPlaces 54 = .ok (.iload 7, 2) := by decide +kernel
theorem dLi_countPlaces_56 : decode cLi_countPlaces 56 = .ok (.aload_n 0, 1) := by decide +kernel
theorem dLi_countPlaces_57 : decode cLi_countPlaces 57 = .ok (.getfield 9, 3) := by decide +kernel
theorem dLi_countPlaces_60 : decode cLi_countPlaces 60 = .ok (.arraylength, 1) := by decide +kernel
theorem dLi_countPlaces_61 : decode cLi_countPlaces 61 = .ok (.if_icmp .ge 14, 3) := by decide +kernel
theorem dLi_countPlaces_64 : decode cLi_countPlaces 64 = .ok (.aload_n 0, 1) := by decide +kernel
theorem dLi_countPlaces_65 : decode cLi_countPlaces 65 = .ok (.getfield 9, 3) := by decide +kernel
theorem dLi_countPlaces_68 : decode cLi_countPlaces 68 = .ok (.iload 7, 2) := by decide +kernel
theorem dLi_countPlaces_70 : decode cLi_countPlaces 70 = .ok (.dup2, 1) := by decide +kernel
theorem dLi_countPlaces_71 : decode cLi_countPlaces 71 = .ok (.iaload, 1) := by decide +kernel
theorem dLi_countPlaces_72 : decode cLi_countPlaces 72 = .ok (.iconst 1, 1) := by decide +kernel
theorem dLi_countPlaces_73 : decode cLi_countPlaces 73 = .ok (.iadd, 1) := by decide +kernel
theorem dLi_countPlaces_74 : decode cLi_countPlaces 74 = .ok (.iastore, 1) := by decide +kernel
theorem dLi_countPlaces_75 : decode cLi_countPlaces 75 = .ok (.iinc 6 1, 3) := by decide +kernel
theorem dLi_countPlaces_78 : decode cLi_countPlaces 78 = .ok (.goto (-52), 3) := by decide +kernel
theorem dLi_countPlaces_81 : decode cLi_countPlaces 81 = .ok (.return_, 1) := by decide +kernel
theorem dJA_fill_0 : decode cJA_fill 0 = .ok (.iconst 0, 1) := by decide +kernel
theorem dJA_fill_1 : decode cJA_fill 1 = .ok (.istore_n 2, 1) := by decide +kernel
theorem dJA_fill_2 : decode cJA_fill 2 = .ok (.aload_n 0, 1) := by decide +kernel
theorem dJA_fill_3 : decode cJA_fill 3 = .ok (.arraylength, 1) := by decide +kernel
theorem dJA_fill_4 : decode cJA_fill 4 = .ok (.istore_n 3, 1) := by decide +kernel
theorem dJA_fill_5 : decode cJA_fill 5 = .ok (.iload_n 2, 1) := by decide +kernel
theorem dJA_fill_6 : decode cJA_fill 6 = .ok (.iload_n 3, 1) := by decide +kernel
theorem dJA_fill_7 : decode cJA_fill 7 = .ok (.if_icmp .ge 13, 3) := by decide +kernel
theorem dJA_fill_10 : decode cJA_fill 10 = .ok (.aload_n 0, 1) := by decide +kernel
theorem dJA_fill_11 : decode cJA_fill 11 = .ok (.iload_n 2, 1) := by decide +kernel
theorem dJA_fill_12 : decode cJA_fill 12 = .ok (.iload_n 1, 1) := by decide +kernel
theorem dJA_fill_13 : decode cJA_fill 13 = .ok (.iastore, 1) := by decide +kernel
theorem dJA_fill_14 : decode cJA_fill 14 = .ok (.iinc 2 1, 3) := by decide +kernel
theorem dJA_fill_17 : decode cJA_fill 17 = .ok (.goto (-12), 3) := by decide +kernel
theorem dJA_fill_20 : decode cJA_fill 20 = .ok (.return_, 1) := by decide +kernel
theorem dQu_ask_0 : decode cQu_ask 0 = .ok (.aload_n 0, 1) := by decide +kernel
theorem dQu_ask_1 : decode cQu_ask 1 = .ok (.lload_n 1, 1) := by decide +kernel
theorem dQu_ask_2 : decode cQu_ask 2 = .ok (.invokevirtual 20, 3) := by decide +kernel
theorem dQu_ask_5 : decode cQu_ask 5 = .ok (.ifCond .eq 26, 3) := by decide +kernel
theorem dQu_ask_8 : decode cQu_ask 8 = .ok (.aload_n 0, 1) := by decide +kernel
theorem dQu_ask_9 : decode cQu_ask 9 = .ok (.dup, 1) := by decide +kernel
theorem dQu_ask_10 : decode cQu_ask 10 = .ok (.getfield 24, 3) := by decide +kernel
theorem dQu_ask_13 : decode cQu_ask 13 = .ok (.iload_n 3, 1) := by decide +kernel
theorem dQu_ask_14 : decode cQu_ask 14 = .ok (.iadd, 1) := by decide +kernel
theorem dQu_ask_15 : decode cQu_ask 15 = .ok (.putfield 24, 3) := by decide +kernel
theorem dQu_ask_18 : decode cQu_ask 18 = .ok (.aload_n 0, 1) := by decide +kernel
theorem dQu_ask_19 : decode cQu_ask 19 = .ok (.dup, 1) := by decide +kernel
theorem dQu_ask_20 : decode cQu_ask 20 = .ok (.getfield 27, 3) := by decide +kernel
theorem dQu_ask_23 : decode cQu_ask 23 = .ok (.lload_n 1, 1) := by decide +kernel
theorem dQu_ask_24 : decode cQu_ask 24 = .ok (.iload_n 3, 1) := by decide +kernel
theorem dQu_ask_25 : decode cQu_ask 25 = .ok (.i2l, 1) := by decide +kernel
theorem dQu_ask_26 : decode cQu_ask 26 = .ok (.lmul, 1) := by decide +kernel
theorem dQu_ask_27 : decode cQu_ask 27 = .ok (.ladd, 1) := by decide +kernel
theorem dQu_ask_28 : decode cQu_ask 28 = .ok (.putfield 27, 3) := by decide +kernel
theorem dQu_ask_31 : decode cQu_ask 31 = .ok (.return_, 1) := by decide +kernel
theorem dQu_fits_0 : decode cQu_fits 0 = .ok (.aload_n 0, 1) := by decide +kernel
theorem dQu_fits_1 : decode cQu_fits 1 = .ok (.getfield 7, 3) := by decide +kernel
theorem dQu_fits_4 : decode cQu_fits 4 = .ok (.tableswitch 125 0 4 #[36, 51, 66, 81, 101], 36) := by decide +kernel
theorem dQu_fits_40 : decode cQu_fits 40 = .ok (.lload_n 1, 1) := by decide +kernel
theorem dQu_fits_41 : decode cQu_fits 41 = .ok (.aload_n 0, 1) := by decide +kernel
theorem dQu_fits_42 : decode cQu_fits 42 = .ok (.getfield 13, 3) := by decide +kernel
theorem dQu_fits_45 : decode cQu_fits 45 = .ok (.lcmp, 1) := by decide +kernel
theorem dQu_fits_46 : decode cQu_fits 46 = .ok (.ifCond .ne 7, 3) := by decide +kernel
theorem dQu_fits_49 : decode cQu_fits 49 = .ok (.iconst 1, 1) := by decide +kernel
theorem dQu_fits_50 : decode cQu_fits 50 = .ok (.goto 4, 3) := by decide +kernel
theorem dQu_fits_53 : decode cQu_fits 53 = .ok (.iconst 0, 1) := by decide +kernel
theorem dQu_fits_54 : decode cQu_fits 54 = .ok (.ireturn, 1) := by decide +kernel
theorem dQu_fits_55 : decode cQu_fits 55 = .ok (.lload_n 1, 1) := by decide +kernel
theorem dQu_fits_56 : decode cQu_fits 56 = .ok (.aload_n 0, 1) := by decide +kernel
theorem dQu_fits_57 : decode cQu_fits 57 = .ok (.getfield 13, 3) := by decide +kernel
theorem dQu_fits_60 : decode cQu_fits 60 = .ok (.lcmp, 1) := by decide +kernel
theorem dQu_fits_61 : decode cQu_fits 61 = .ok (.ifCond .ge 7, 3) := by decide +kernel
theorem dQu_fits_64 : decode cQu_fits 64 = .ok (.iconst 1, 1) := by decide +kernel
theorem dQu_fits_65 : decode cQu_fits 65 = .ok (.goto 4, 3) := by decide +kernel
theorem dQu_fits_68 : decode cQu_fits 68 = .ok (.iconst 0, 1) := by decide +kernel
theorem dQu_fits_69 : decode cQu_fits 69 = .ok (.ireturn, 1) := by decide +kernel
theorem dQu_fits_70 : decode cQu_fits 70 = .ok (.lload_n 1, 1) := by decide +kernel
theorem dQu_fits_71 : decode cQu_fits 71 = .ok (.aload_n 0, 1) := by decide +kernel
theorem dQu_fits_72 : decode cQu_fits 72 = .ok (.getfield 13, 3) := by decide +kernel
theorem dQu_fits_75 : decode cQu_fits 75 = .ok (.lcmp, 1) := by decide +kernel
theorem dQu_fits_76 : decode cQu_fits 76 = .ok (.ifCond .le 7, 3) := by decide +kernel
theorem dQu_fits_79 : decode cQu_fits 79 = .ok (.iconst 1, 1) := by decide +kernel
theorem dQu_fits_80 : decode cQu_fits 80 = .ok (.goto 4, 3) := by decide +kernel
theorem dQu_fits_83 : decode cQu_fits 83 = .ok (.iconst 0, 1) := by decide +kernel
theorem dQu_fits_84 : decode cQu_fits 84 = .ok (.ireturn, 1) := by decide +kernel
theorem dQu_fits_85 : decode cQu_fits 85 = .ok (.lload_n 1, 1) := by decide +kernel
theorem dQu_fits_86 : decode cQu_fits 86 = .ok (.aload_n 0, 1) := by decide +kernel
theorem dQu_fits_87 : decode cQu_fits 87 = .ok (.getfield 13, 3) := by decide +kernel
theorem dQu_fits_90 : decode cQu_fits 90 = .ok (.land, 1) := by decide +kernel
theorem dQu_fits_91 : decode cQu_fits 91 = .ok (.aload_n 0, 1) := by decide +kernel
theorem dQu_fits_92 : decode cQu_fits 92 = .ok (.getfield 13, 3) := by decide +kernel
theorem dQu_fits_95 : decode cQu_fits 95 = .ok (.lcmp, 1) := by decide +kernel
theorem dQu_fits_96 : decode cQu_fits 96 = .ok (.ifCond .ne 7, 3) := by decide +kernel
theorem dQu_fits_99 : decode cQu_fits 99 = .ok (.iconst 1, 1) := by decide +kernel
theorem dQu_fits_100 : decode cQu_fits 100 = .ok (.goto 4, 3) := by decide +kernel
theorem dQu_fits_103 : decode cQu_fits 103 = .ok (.iconst 0, 1) := by decide +kernel
theorem dQu_fits_104 : decode cQu_fits 104 = .ok (.ireturn, 1) := by decide +kernel
theorem dQu_fits_105 : decode cQu_fits 105 = .ok (.lload_n 1, 1) := by decide +kernel
theorem dQu_fits_106 : decode cQu_fits 106 = .ok (.aload_n 0, 1) := by decide +kernel
theorem dQu_fits_107 : decode cQu_fits 107 = .ok (.getfield 13, 3) := by decide +kernel
theorem dQu_fits_110 : decode cQu_fits 110 = .ok (.lcmp, 1) := by decide +kernel
theorem dQu_fits_111 : decode cQu_fits 111 = .ok (.ifCond .lt 16, 3) := by decide +kernel
theorem dQu_fits_114 : decode cQu_fits 114 = .ok (.lload_n 1, 1) := by decide +kernel
theorem dQu_fits_115 : decode cQu_fits 115 = .ok (.aload_n 0, 1) := by decide +kernel
theorem dQu_fits_116 : decode cQu_fits 116 = .ok (.getfield 17, 3) := by decide +kernel
theorem dQu_fits_119 : decode cQu_fits 119 = .ok (.lcmp, 1) := by decide +kernel
theorem dQu_fits_120 : decode cQu_fits 120 = .ok (.ifCond .gt 7, 3) := by decide +kernel
theorem dQu_fits_123 : decode cQu_fits 123 = .ok (.iconst 1, 1) := by decide +kernel
theorem dQu_fits_124 : decode cQu_fits 124 = .ok (.goto 4, 3) := by decide +kernel
theorem dQu_fits_127 : decode cQu_fits 127 = .ok (.iconst 0, 1) := by decide +kernel
theorem dQu_fits_128 : decode cQu_fits 128 = .ok (.ireturn, 1) := by decide +kernel
theorem dQu_fits_129 : decode cQu_fits 129 = .ok (.iconst 0, 1) := by decide +kernel
theorem dQu_fits_130 : decode cQu_fits 130 = .ok (.ireturn, 1) := by decide +kernel
theorem dPa_askAll_0 : decode cPa_askAll 0 = .ok (.aload_n 1, 1) := by decide +kernel
theorem dPa_askAll_1 : decode cPa_askAll 1 = .ok (.iconst 0, 1) := by decide +kernel
theorem dPa_askAll_2 : decode cPa_askAll 2 = .ok (.bipush 64, 2) := by decide +kernel
theorem dPa_askAll_4 : decode cPa_askAll 4 = .ok (.invokevirtual 39, 3) := by decide +kernel
theorem dPa_askAll_7 : decode cPa_askAll 7 = .ok (.lstore 4, 2) := by decide +kernel
theorem dPa_askAll_9 : decode cPa_askAll 9 = .ok (.aload_n 1, 1) := by decide +kernel
theorem dPa_askAll_10 : decode cPa_askAll 10 = .ok (.bipush 64, 2) := by decide +kernel
theorem dPa_askAll_12 : decode cPa_askAll 12 = .ok (.bipush 8, 2) := by decide +kernel
theorem dPa_askAll_14 : decode cPa_askAll 14 = .ok (.invokevirtual 39, 3) := by decide +kernel
theorem dPa_askAll_17 : decode cPa_askAll 17 = .ok (.l2i, 1) := by decide +kernel
theorem dPa_askAll_18 : decode cPa_askAll 18 = .ok (.istore 6, 2) := by decide +kernel
theorem dPa_askAll_20 : decode cPa_askAll 20 = .ok (.iconst 0, 1) := by decide +kernel
theorem dPa_askAll_21 : decode cPa_askAll 21 = .ok (.istore 7, 2) := by decide +kernel
theorem dPa_askAll_23 : decode cPa_askAll 23 = .ok (.iload 7, 2) := by decide +kernel
theorem dPa_askAll_25 : decode cPa_askAll 25 = .ok (.iload_n 2, 1) := by decide +kernel
theorem dPa_askAll_26 : decode cPa_askAll 26 = .ok (.if_icmp .ge 31, 3) := by decide +kernel
theorem dPa_askAll_29 : decode cPa_askAll 29 = .ok (.aload_n 3, 1) := by decide +kernel
theorem dPa_askAll_30 : decode cPa_askAll 30 = .ok (.lload 4, 2) := by decide +kernel
theorem dPa_askAll_32 : decode cPa_askAll 32 = .ok (.aload_n 1, 1) := by decide +kernel
theorem dPa_askAll_33 : decode cPa_askAll 33 = .ok (.bipush 72, 2) := by decide +kernel
theorem dPa_askAll_35 : decode cPa_askAll 35 = .ok (.iload 7, 2) := by decide +kernel
theorem dPa_askAll_37 : decode cPa_askAll 37 = .ok (.iload 6, 2) := by decide +kernel
theorem dPa_askAll_39 : decode cPa_askAll 39 = .ok (.imul, 1) := by decide +kernel
theorem dPa_askAll_40 : decode cPa_askAll 40 = .ok (.iadd, 1) := by decide +kernel
theorem dPa_askAll_41 : decode cPa_askAll 41 = .ok (.iload 6, 2) := by decide +kernel
theorem dPa_askAll_43 : decode cPa_askAll 43 = .ok (.invokevirtual 39, 3) := by decide +kernel
theorem dPa_askAll_46 : decode cPa_askAll 46 = .ok (.ladd, 1) := by decide +kernel
theorem dPa_askAll_47 : decode cPa_askAll 47 = .ok (.iconst 1, 1) := by decide +kernel
theorem dPa_askAll_48 : decode cPa_askAll 48 = .ok (.invokevirtual 43, 3) := by decide +kernel
theorem dPa_askAll_51 : decode cPa_askAll 51 = .ok (.iinc 7 1, 3) := by decide +kernel
theorem dPa_askAll_54 : decode cPa_askAll 54 = .ok (.goto (-31), 3) := by decide +kernel
theorem dPa_askAll_57 : decode cPa_askAll 57 = .ok (.return_, 1) := by decide +kernel
theorem dPl_askAll_0 : decode cPl_askAll 0 = .ok (.iconst 0, 1) := by decide +kernel
theorem dPl_askAll_1 : decode cPl_askAll 1 = .ok (.istore 4, 2) := by decide +kernel
theorem dPl_askAll_3 : decode cPl_askAll 3 = .ok (.iload 4, 2) := by decide +kernel
theorem dPl_askAll_5 : decode cPl_askAll 5 = .ok (.iload_n 2, 1) := by decide +kernel
theorem dPl_askAll_6 : decode cPl_askAll 6 = .ok (.if_icmp .ge 21, 3) := by decide +kernel
theorem dPl_askAll_9 : decode cPl_askAll 9 = .ok (.aload_n 3, 1) := by decide +kernel
theorem dPl_askAll_10 : decode cPl_askAll 10 = .ok (.aload_n 0, 1) := by decide +kernel
theorem dPl_askAll_11 : decode cPl_askAll 11 = .ok (.aload_n 1, 1) := by decide +kernel
theorem dPl_askAll_12 : decode cPl_askAll 12 = .ok (.iload 4, 2) := by decide +kernel
theorem dPl_askAll_14 : decode cPl_askAll 14 = .ok (.invokevirtual 27, 3) := by decide +kernel
theorem dPl_askAll_17 : decode cPl_askAll 17 = .ok (.iconst 1, 1) := by decide +kernel
theorem dPl_askAll_18 : decode cPl_askAll 18 = .ok (.invokevirtual 33, 3) := by decide +kernel
theorem dPl_askAll_21 : decode cPl_askAll 21 = .ok (.iinc 4 1, 3) := by decide +kernel
theorem dPl_askAll_24 : decode cPl_askAll 24 = .ok (.goto (-21), 3) := by decide +kernel
theorem dPl_askAll_27 : decode cPl_askAll 27 = .ok (.return_, 1) := by decide +kernel
theorem dRu_askAll_0 : decode cRu_askAll 0 = .ok (.aload_n 1, 1) := by decide +kernel
theorem dRu_askAll_1 : decode cRu_askAll 1 = .ok (.invokestatic 34, 3) := by decide +kernel
theorem dRu_askAll_4 : decode cRu_askAll 4 = .ok (.istore 4, 2) := by decide +kernel
theorem dRu_askAll_6 : decode cRu_askAll 6 = .ok (.iconst 0, 1) := by decide +kernel
theorem dRu_askAll_7 : decode cRu_askAll 7 = .ok (.istore 5, 2) := by decide +kernel
theorem dRu_askAll_9 : decode cRu_askAll 9 = .ok (.iload 5, 2) := by decide +kernel
theorem dRu_askAll_11 : decode cRu_askAll 11 = .ok (.iload 4, 2) := by decide +kernel
theorem dRu_askAll_13 : decode cRu_askAll 13 = .ok (.if_icmp .ge 25, 3) := by decide +kernel
theorem dRu_askAll_16 : decode cRu_askAll 16 = .ok (.aload_n 3, 1) := by decide +kernel
theorem dRu_askAll_17 : decode cRu_askAll 17 = .ok (.aload_n 1, 1) := by decide +kernel
theorem dRu_askAll_18 : decode cRu_askAll 18 = .ok (.iload 5, 2) := by decide +kernel
theorem dRu_askAll_20 : decode cRu_askAll 20 = .ok (.invokestatic 42, 3) := by decide +kernel
theorem dRu_askAll_23 : decode cRu_askAll 23 = .ok (.aload_n 1, 1) := by decide +kernel
theorem dRu_askAll_24 : decode cRu_askAll 24 = .ok (.iload 5, 2) := by decide +kernel
theorem dRu_askAll_26 : decode cRu_askAll 26 = .ok (.invokestatic 38, 3) := by decide +kernel
theorem dRu_askAll_29 : decode cRu_askAll 29 = .ok (.invokevirtual 46, 3) := by decide +kernel
theorem dRu_askAll_32 : decode cRu_askAll 32 = .ok (.iinc 5 1, 3) := by decide +kernel
theorem dRu_askAll_35 : decode cRu_askAll 35 = .ok (.goto (-26), 3) := by decide +kernel
theorem dRu_askAll_38 : decode cRu_askAll 38 = .ok (.return_, 1) := by decide +kernel
theorem dSs_askAll_0 : decode cSs_askAll 0 = .ok (.aload_n 1, 1) := by decide +kernel
theorem dSs_askAll_1 : decode cSs_askAll 1 = .ok (.invokestatic 39, 3) := by decide +kernel
theorem dSs_askAll_4 : decode cSs_askAll 4 = .ok (.istore 4, 2) := by decide +kernel
theorem dSs_askAll_6 : decode cSs_askAll 6 = .ok (.aload_n 1, 1) := by decide +kernel
theorem dSs_askAll_7 : decode cSs_askAll 7 = .ok (.bipush 64, 2) := by decide +kernel
theorem dSs_askAll_9 : decode cSs_askAll 9 = .ok (.bipush 64, 2) := by decide +kernel
theorem dSs_askAll_11 : decode cSs_askAll 11 = .ok (.invokevirtual 43, 3) := by decide +kernel
theorem dSs_askAll_14 : decode cSs_askAll 14 = .ok (.lstore 5, 2) := by decide +kernel
theorem dSs_askAll_16 : decode cSs_askAll 16 = .ok (.aload_n 1, 1) := by decide +kernel
theorem dSs_askAll_17 : decode cSs_askAll 17 = .ok (.iconst 0, 1) := by decide +kernel
theorem dSs_askAll_18 : decode cSs_askAll 18 = .ok (.bipush 64, 2) := by decide +kernel
theorem dSs_askAll_20 : decode cSs_askAll 20 = .ok (.invokevirtual 43, 3) := by decide +kernel
theorem dSs_askAll_23 : decode cSs_askAll 23 = .ok (.lstore 7, 2) := by decide +kernel
theorem dSs_askAll_25 : decode cSs_askAll 25 = .ok (.aload_n 3, 1) := by decide +kernel
theorem dSs_askAll_26 : decode cSs_askAll 26 = .ok (.lload 7, 2) := by decide +kernel
theorem dSs_askAll_28 : decode cSs_askAll 28 = .ok (.iconst 1, 1) := by decide +kernel
theorem dSs_askAll_29 : decode cSs_askAll 29 = .ok (.invokevirtual 47, 3) := by decide +kernel
theorem dSs_askAll_32 : decode cSs_askAll 32 = .ok (.iconst 0, 1) := by decide +kernel
theorem dSs_askAll_33 : decode cSs_askAll 33 = .ok (.istore 9, 2) := by decide +kernel
theorem dSs_askAll_35 : decode cSs_askAll 35 = .ok (.iload 9, 2) := by decide +kernel
theorem dSs_askAll_37 : decode cSs_askAll 37 = .ok (.iload_n 2, 1) := by decide +kernel
theorem dSs_askAll_38 : decode cSs_askAll 38 = .ok (.iconst 1, 1) := by decide +kernel
theorem dSs_askAll_39 : decode cSs_askAll 39 = .ok (.isub, 1) := by decide +kernel
theorem dSs_askAll_40 : decode cSs_askAll 40 = .ok (.if_icmp .ge 39, 3) := by decide +kernel
theorem dSs_askAll_43 : decode cSs_askAll 43 = .ok (.lload 7, 2) := by decide +kernel
theorem dSs_askAll_45 : decode cSs_askAll 45 = .ok (.lload 5, 2) := by decide +kernel
theorem dSs_askAll_47 : decode cSs_askAll 47 = .ok (.aload_n 1, 1) := by decide +kernel
theorem dSs_askAll_48 : decode cSs_askAll 48 = .ok (.sipush 136, 3) := by decide +kernel
theorem dSs_askAll_51 : decode cSs_askAll 51 = .ok (.iload 9, 2) := by decide +kernel
theorem dSs_askAll_53 : decode cSs_askAll 53 = .ok (.iload 4, 2) := by decide +kernel
theorem dSs_askAll_55 : decode cSs_askAll 55 = .ok (.imul, 1) := by decide +kernel
theorem dSs_askAll_56 : decode cSs_askAll 56 = .ok (.iadd, 1) := by decide +kernel
theorem dSs_askAll_57 : decode cSs_askAll 57 = .ok (.iload 4, 2) := by decide +kernel
theorem dSs_askAll_59 : decode cSs_askAll 59 = .ok (.invokevirtual 43, 3) := by decide +kernel
theorem dSs_askAll_62 : decode cSs_askAll 62 = .ok (.ladd, 1) := by decide +kernel
theorem dSs_askAll_63 : decode cSs_askAll 63 = .ok (.ladd, 1) := by decide +kernel
theorem dSs_askAll_64 : decode cSs_askAll 64 = .ok (.lstore 7, 2) := by decide +kernel
theorem dSs_askAll_66 : decode cSs_askAll 66 = .ok (.aload_n 3, 1) := by decide +kernel
theorem dSs_askAll_67 : decode cSs_askAll 67 = .ok (.lload 7, 2) := by decide +kernel
theorem dSs_askAll_69 : decode cSs_askAll 69 = .ok (.iconst 1, 1) := by decide +kernel
theorem dSs_askAll_70 : decode cSs_askAll 70 = .ok (.invokevirtual 47, 3) := by decide +kernel
theorem dSs_askAll_73 : decode cSs_askAll 73 = .ok (.iinc 9 1, 3) := by decide +kernel
theorem dSs_askAll_76 : decode cSs_askAll 76 = .ok (.goto (-41), 3) := by decide +kernel
theorem dSs_askAll_79 : decode cSs_askAll 79 = .ok (.return_, 1) := by decide +kernel
theorem dCf_sum_0 : decode cCf_sum 0 = .ok (.aload_n 0, 1) := by decide +kernel
theorem dCf_sum_1 : decode cCf_sum 1 = .ok (.invokevirtual 109, 3) := by decide +kernel
theorem dCf_sum_4 : decode cCf_sum 4 = .ok (.new 112, 3) := by decide +kernel
theorem dCf_sum_7 : decode cCf_sum 7 = .ok (.dup, 1) := by decide +kernel
theorem dCf_sum_8 : decode cCf_sum 8 = .ok (.iconst 4, 1) := by decide +kernel
theorem dCf_sum_9 : decode cCf_sum 9 = .ok (.lload_n 1, 1) := by decide +kernel
theorem dCf_sum_10 : decode cCf_sum 10 = .ok (.lload_n 3, 1) := by decide +kernel
theorem dCf_sum_11 : decode cCf_sum 11 = .ok (.invokespecial 114, 3) := by decide +kernel
theorem dCf_sum_14 : decode cCf_sum 14 = .ok (.astore 5, 2) := by decide +kernel
theorem dCf_sum_16 : decode cCf_sum 16 = .ok (.aload_n 0, 1) := by decide +kernel
theorem dCf_sum_17 : decode cCf_sum 17 = .ok (.getfield 40, 3) := by decide +kernel
theorem dCf_sum_20 : decode cCf_sum 20 = .ok (.aload_n 0, 1) := by decide +kernel
theorem dCf_sum_21 : decode cCf_sum 21 = .ok (.getfield 44, 3) := by decide +kernel
theorem dCf_sum_24 : decode cCf_sum 24 = .ok (.aaload, 1) := by decide +kernel
theorem dCf_sum_25 : decode cCf_sum 25 = .ok (.aload_n 0, 1) := by decide +kernel
theorem dCf_sum_26 : decode cCf_sum 26 = .ok (.getfield 19, 3) := by decide +kernel
theorem dCf_sum_29 : decode cCf_sum 29 = .ok (.aload_n 0, 1) := by decide +kernel
theorem dCf_sum_30 : decode cCf_sum 30 = .ok (.getfield 48, 3) := by decide +kernel
theorem dCf_sum_33 : decode cCf_sum 33 = .ok (.aload 5, 2) := by decide +kernel
theorem dCf_sum_35 : decode cCf_sum 35 = .ok (.invokevirtual 117, 3) := by decide +kernel
theorem dCf_sum_38 : decode cCf_sum 38 = .ok (.aload 5, 2) := by decide +kernel
theorem dCf_sum_40 : decode cCf_sum 40 = .ok (.getfield 124, 3) := by decide +kernel
theorem dCf_sum_43 : decode cCf_sum 43 = .ok (.lreturn, 1) := by decide +kernel
theorem dMo_init_0 : decode cMo_init 0 = .ok (.aload_n 0, 1) := by decide +kernel
theorem dMo_init_1 : decode cMo_init 1 = .ok (.invokespecial 1, 3) := by decide +kernel
theorem dMo_init_4 : decode cMo_init 4 = .ok (.aload_n 0, 1) := by decide +kernel
theorem dMo_init_5 : decode cMo_init 5 = .ok (.sipush 1024, 3) := by decide +kernel
theorem dMo_init_8 : decode cMo_init 8 = .ok (.newarray .long, 2) := by decide +kernel
theorem dMo_init_10 : decode cMo_init 10 = .ok (.putfield 7, 3) := by decide +kernel
theorem dMo_init_13 : decode cMo_init 13 = .ok (.aload_n 0, 1) := by decide +kernel
theorem dMo_init_14 : decode cMo_init 14 = .ok (.iconst (-1), 1) := by decide +kernel
theorem dMo_init_15 : decode cMo_init 15 = .ok (.putfield 13, 3) := by decide +kernel
theorem dMo_init_18 : decode cMo_init 18 = .ok (.aload_n 0, 1) := by decide +kernel
theorem dMo_init_19 : decode cMo_init 19 = .ok (.sipush 1024, 3) := by decide +kernel
theorem dMo_init_22 : decode cMo_init 22 = .ok (.newarray .long, 2) := by decide +kernel
theorem dMo_init_24 : decode cMo_init 24 = .ok (.putfield 17, 3) := by decide +kernel
theorem dMo_init_27 : decode cMo_init 27 = .ok (.aload_n 0, 1) := by decide +kernel
theorem dMo_init_28 : decode cMo_init 28 = .ok (.sipush 10400, 3) := by decide +kernel
theorem dMo_init_31 : decode cMo_init 31 = .ok (.newarray .int, 2) := by decide +kernel
theorem dMo_init_33 : decode cMo_init 33 = .ok (.putfield 20, 3) := by decide +kernel
theorem dMo_init_36 : decode cMo_init 36 = .ok (.aload_n 0, 1) := by decide +kernel
theorem dMo_init_37 : decode cMo_init 37 = .ok (.sipush 1024, 3) := by decide +kernel
theorem dMo_init_40 : decode cMo_init 40 = .ok (.newarray .long, 2) := by decide +kernel
theorem dMo_init_42 : decode cMo_init 42 = .ok (.putfield 24, 3) := by decide +kernel
theorem dMo_init_45 : decode cMo_init 45 = .ok (.return_, 1) := by decide +kernel
theorem dMo_thrown_0 : decode cMo_thrown 0 = .ok (.aload_n 0, 1) := by decide +kernel
theorem dMo_thrown_1 : decode cMo_thrown 1 = .ok (.getfield 27, 3) := by decide +kernel
theorem dMo_thrown_4 : decode cMo_thrown 4 = .ok (.ireturn, 1) := by decide +kernel
theorem dMo_put_0 : decode cMo_put 0 = .ok (.aload_n 0, 1) := by decide +kernel
theorem dMo_put_1 : decode cMo_put 1 = .ok (.aload_n 0, 1) := by decide +kernel
theorem dMo_put_2 : decode cMo_put 2 = .ok (.getfield 30, 3) := by decide +kernel
theorem dMo_put_5 : decode cMo_put 5 = .ok (.sipush 1024, 3) := by decide +kernel
theorem dMo_put_8 : decode cMo_put 8 = .ok (.if_icmp .ne 7, 3) := by decide +kernel
theorem dMo_put_11 : decode cMo_put 11 = .ok (.iconst 1, 1) := by decide +kernel
theorem dMo_put_12 : decode cMo_put 12 = .ok (.goto 4, 3) := by decide +kernel
theorem dMo_put_15 : decode cMo_put 15 = .ok (.iconst 0, 1) := by decide +kernel
theorem dMo_put_16 : decode cMo_put 16 = .ok (.putfield 27, 3) := by decide +kernel
theorem dMo_put_19 : decode cMo_put 19 = .ok (.aload_n 0, 1) := by decide +kernel
theorem dMo_put_20 : decode cMo_put 20 = .ok (.getfield 27, 3) := by decide +kernel
theorem dMo_put_23 : decode cMo_put 23 = .ok (.ifCond .le 5, 3) := by decide +kernel
theorem dMo_put_26 : decode cMo_put 26 = .ok (.iconst 0, 1) := by decide +kernel
theorem dMo_put_27 : decode cMo_put 27 = .ok (.ireturn, 1) := by decide +kernel
theorem dMo_put_28 : decode cMo_put 28 = .ok (.aload_n 0, 1) := by decide +kernel
theorem dMo_put_29 : decode cMo_put 29 = .ok (.getfield 7, 3) := by decide +kernel
theorem dMo_put_32 : decode cMo_put 32 = .ok (.aload_n 0, 1) := by decide +kernel
theorem dMo_put_33 : decode cMo_put 33 = .ok (.getfield 30, 3) := by decide +kernel
theorem dMo_put_36 : decode cMo_put 36 = .ok (.lload_n 1, 1) := by decide +kernel
theorem dMo_put_37 : decode cMo_put 37 = .ok (.lastore, 1) := by decide +kernel
theorem dMo_put_38 : decode cMo_put 38 = .ok (.aload_n 0, 1) := by decide +kernel
theorem dMo_put_39 : decode cMo_put 39 = .ok (.dup, 1) := by decide +kernel
theorem dMo_put_40 : decode cMo_put 40 = .ok (.getfield 30, 3) := by decide +kernel
theorem dMo_put_43 : decode cMo_put 43 = .ok (.iconst 1, 1) := by decide +kernel
theorem dMo_put_44 : decode cMo_put 44 = .ok (.iadd, 1) := by decide +kernel
theorem dMo_put_45 : decode cMo_put 45 = .ok (.putfield 30, 3) := by decide +kernel
theorem dMo_put_48 : decode cMo_put 48 = .ok (.aload_n 0, 1) := by decide +kernel
theorem dMo_put_49 : decode cMo_put 49 = .ok (.getfield 30, 3) := by decide +kernel
theorem dMo_put_52 : decode cMo_put 52 = .ok (.ireturn, 1) := by decide +kernel
theorem dMo_fill_0 : decode cMo_fill 0 = .ok (.aload_n 0, 1) := by decide +kernel
theorem dMo_fill_1 : decode cMo_fill 1 = .ok (.iload 5, 2) := by decide +kernel
theorem dMo_fill_3 : decode cMo_fill 3 = .ok (.iconst 1, 1) := by decide +kernel
theorem dMo_fill_4 : decode cMo_fill 4 = .ok (.if_icmp .lt 11, 3) := by decide +kernel
theorem dMo_fill_7 : decode cMo_fill 7 = .ok (.iload 5, 2) := by decide +kernel
theorem dMo_fill_9 : decode cMo_fill 9 = .ok (.sipush 1024, 3) := by decide +kernel
theorem dMo_fill_12 : decode cMo_fill 12 = .ok (.if_icmp .le 7, 3) := by decide +kernel
theorem dMo_fill_15 : decode cMo_fill 15 = .ok (.iconst 1, 1) := by decide +kernel
theorem dMo_fill_16 : decode cMo_fill 16 = .ok (.goto 21, 3) := by decide +kernel
theorem dMo_fill_19 : decode cMo_fill 19 = .ok (.aload_n 0, 1) := by decide +kernel
theorem dMo_fill_20 : decode cMo_fill 20 = .ok (.getfield 30, 3) := by decide +kernel
theorem dMo_fill_23 : decode cMo_fill 23 = .ok (.iload 5, 2) := by decide +kernel
theorem dMo_fill_25 : decode cMo_fill 25 = .ok (.iadd, 1) := by decide +kernel
theorem dMo_fill_26 : decode cMo_fill 26 = .ok (.sipush 1024, 3) := by decide +kernel
theorem dMo_fill_29 : decode cMo_fill 29 = .ok (.if_icmp .le 7, 3) := by decide +kernel
theorem dMo_fill_32 : decode cMo_fill 32 = .ok (.iconst 2, 1) := by decide +kernel
theorem dMo_fill_33 : decode cMo_fill 33 = .ok (.goto 4, 3) := by decide +kernel
theorem dMo_fill_36 : decode cMo_fill 36 = .ok (.iconst 0, 1) := by decide +kernel
theorem dMo_fill_37 : decode cMo_fill 37 = .ok (.putfield 27, 3) := by decide +kernel
theorem dMo_fill_40 : decode cMo_fill 40 = .ok (.lload_n 1, 1) := by decide +kernel
theorem dMo_fill_41 : decode cMo_fill 41 = .ok (.lstore 6, 2) := by decide +kernel
theorem dMo_fill_43 : decode cMo_fill 43 = .ok (.iconst 0, 1) := by decide +kernel
theorem dMo_fill_44 : decode cMo_fill 44 = .ok (.istore 8, 2) := by decide +kernel
theorem dMo_fill_46 : decode cMo_fill 46 = .ok (.iload 8, 2) := by decide +kernel
theorem dMo_fill_48 : decode cMo_fill 48 = .ok (.iload 5, 2) := by decide +kernel
theorem dMo_fill_50 : decode cMo_fill 50 = .ok (.if_icmp .ge 43, 3) := by decide +kernel
theorem dMo_fill_53 : decode cMo_fill 53 = .ok (.aload_n 0, 1) := by decide +kernel
theorem dMo_fill_54 : decode cMo_fill 54 = .ok (.getfield 27, 3) := by decide +kernel
theorem dMo_fill_57 : decode cMo_fill 57 = .ok (.ifCond .ne 36, 3) := by decide +kernel
theorem dMo_fill_60 : decode cMo_fill 60 = .ok (.aload_n 0, 1) := by decide +kernel
theorem dMo_fill_61 : decode cMo_fill 61 = .ok (.getfield 7, 3) := by decide +kernel
theorem dMo_fill_64 : decode cMo_fill 64 = .ok (.aload_n 0, 1) := by decide +kernel
theorem dMo_fill_65 : decode cMo_fill 65 = .ok (.getfield 30, 3) := by decide +kernel
theorem dMo_fill_68 : decode cMo_fill 68 = .ok (.lload 6, 2) := by decide +kernel
theorem dMo_fill_70 : decode cMo_fill 70 = .ok (.lastore, 1) := by decide +kernel
theorem dMo_fill_71 : decode cMo_fill 71 = .ok (.aload_n 0, 1) := by decide +kernel
theorem dMo_fill_72 : decode cMo_fill 72 = .ok (.dup, 1) := by decide +kernel
theorem dMo_fill_73 : decode cMo_fill 73 = .ok (.getfield 30, 3) := by decide +kernel
theorem dMo_fill_76 : decode cMo_fill 76 = .ok (.iconst 1, 1) := by decide +kernel
theorem dMo_fill_77 : decode cMo_fill 77 = .ok (.iadd, 1) := by decide +kernel
theorem dMo_fill_78 : decode cMo_fill 78 = .ok (.putfield 30, 3) := by decide +kernel
theorem dMo_fill_81 : decode cMo_fill 81 = .ok (.lload 6, 2) := by decide +kernel
theorem dMo_fill_83 : decode cMo_fill 83 = .ok (.lload_n 3, 1) := by decide +kernel
theorem dMo_fill_84 : decode cMo_fill 84 = .ok (.ladd, 1) := by decide +kernel
theorem dMo_fill_85 : decode cMo_fill 85 = .ok (.lstore 6, 2) := by decide +kernel
theorem dMo_fill_87 : decode cMo_fill 87 = .ok (.iinc 8 1, 3) := by decide +kernel
theorem dMo_fill_90 : decode cMo_fill 90 = .ok (.goto (-44), 3) := by decide +kernel
theorem dMo_fill_93 : decode cMo_fill 93 = .ok (.aload_n 0, 1) := by decide +kernel
theorem dMo_fill_94 : decode cMo_fill 94 = .ok (.getfield 27, 3) := by decide +kernel
theorem dMo_fill_97 : decode cMo_fill 97 = .ok (.ifCond .le 7, 3) := by decide +kernel
theorem dMo_fill_100 : decode cMo_fill 100 = .ok (.iconst 0, 1) := by decide +kernel
theorem dMo_fill_101 : decode cMo_fill 101 = .ok (.goto 7, 3) := by decide +kernel
theorem dMo_fill_104 : decode cMo_fill 104 = .ok (.aload_n 0, 1) := by decide +kernel
theorem dMo_fill_105 : decode cMo_fill 105 = .ok (.getfield 30, 3) := by decide +kernel
theorem dMo_fill_108 : decode cMo_fill 108 = .ok (.ireturn, 1) := by decide +kernel
theorem dMo_clear_0 : decode cMo_clear 0 = .ok (.aload_n 0, 1) := by decide +kernel
theorem dMo_clear_1 : decode cMo_clear 1 = .ok (.iconst 0, 1) := by decide +kernel
theorem dMo_clear_2 : decode cMo_clear 2 = .ok (.putfield 27, 3) := by decide +kernel
theorem dMo_clear_5 : decode cMo_clear 5 = .ok (.aload_n 0, 1) := by decide +kernel
theorem dMo_clear_6 : decode cMo_clear 6 = .ok (.getfield 30, 3) := by decide +kernel
theorem dMo_clear_9 : decode cMo_clear 9 = .ok (.istore_n 1, 1) := by decide +kernel
theorem dMo_clear_10 : decode cMo_clear 10 = .ok (.aload_n 0, 1) := by decide +kernel
theorem dMo_clear_11 : decode cMo_clear 11 = .ok (.iconst 0, 1) := by decide +kernel
theorem dMo_clear_12 : decode cMo_clear 12 = .ok (.putfield 30, 3) := by decide +kernel
theorem dMo_clear_15 : decode cMo_clear 15 = .ok (.iload_n 1, 1) := by decide +kernel
theorem dMo_clear_16 : decode cMo_clear 16 = .ok (.ireturn, 1) := by decide +kernel
theorem dMo_weight_0 : decode cMo_weight 0 = .ok (.aload_n 0, 1) := by decide +kernel
theorem dMo_weight_1 : decode cMo_weight 1 = .ok (.iload_n 1, 1) := by decide +kernel
theorem dMo_weight_2 : decode cMo_weight 2 = .ok (.ifCond .lt 8, 3) := by decide +kernel
theorem dMo_weight_5 : decode cMo_weight 5 = .ok (.iload_n 1, 1) := by decide +kernel
theorem dMo_weight_6 : decode cMo_weight 6 = .ok (.iconst 4, 1) := by decide +kernel
theorem dMo_weight_7 : decode cMo_weight 7 = .ok (.if_icmp .le 7, 3) := by decide +kernel
theorem dMo_weight_10 : decode cMo_weight 10 = .ok (.iconst 1, 1) := by decide +kernel
theorem dMo_weight_11 : decode cMo_weight 11 = .ok (.goto 15, 3) := by decide +kernel
theorem dMo_weight_14 : decode cMo_weight 14 = .ok (.aload_n 0, 1) := by decide +kernel
theorem dMo_weight_15 : decode cMo_weight 15 = .ok (.getfield 30, 3) := by decide +kernel
theorem dMo_weight_18 : decode cMo_weight 18 = .ok (.ifCond .ne 7, 3) := by decide +kernel
theorem dMo_weight_21 : decode cMo_weight 21 = .ok (.iconst 2, 1) := by decide +kernel
theorem dMo_weight_22 : decode cMo_weight 22 = .ok (.goto 4, 3) := by decide +kernel
theorem dMo_weight_25 : decode cMo_weight 25 = .ok (.iconst 0, 1) := by decide +kernel
theorem dMo_weight_26 : decode cMo_weight 26 = .ok (.putfield 27, 3) := by decide +kernel
theorem dMo_weight_29 : decode cMo_weight 29 = .ok (.aload_n 0, 1) := by decide +kernel
theorem dMo_weight_30 : decode cMo_weight 30 = .ok (.getfield 27, 3) := by decide +kernel
theorem dMo_weight_33 : decode cMo_weight 33 = .ok (.ifCond .le 7, 3) := by decide +kernel
theorem dMo_weight_36 : decode cMo_weight 36 = .ok (.iconst 0, 1) := by decide +kernel
theorem dMo_weight_37 : decode cMo_weight 37 = .ok (.goto 8, 3) := by decide +kernel
theorem dMo_weight_40 : decode cMo_weight 40 = .ok (.aload_n 0, 1) := by decide +kernel
theorem dMo_weight_41 : decode cMo_weight 41 = .ok (.iload_n 1, 1) := by decide +kernel
theorem dMo_weight_42 : decode cMo_weight 42 = .ok (.invokevirtual 71, 3) := by decide +kernel
theorem dMo_weight_45 : decode cMo_weight 45 = .ok (.ireturn, 1) := by decide +kernel
theorem dMo_weigh_0 : decode cMo_weigh 0 = .ok (.iload_n 1, 1) := by decide +kernel
theorem dMo_weigh_1 : decode cMo_weigh 1 = .ok (.tableswitch 106 0 3 #[31, 39, 63, 96], 31) := by decide +kernel
theorem dMo_weigh_32 : decode cMo_weigh 32 = .ok (.bipush 8, 2) := by decide +kernel
theorem dMo_weigh_34 : decode cMo_weigh 34 = .ok (.aload_n 0, 1) := by decide +kernel
theorem dMo_weigh_35 : decode cMo_weigh 35 = .ok (.getfield 30, 3) := by decide +kernel
theorem dMo_weigh_38 : decode cMo_weigh 38 = .ok (.imul, 1) := by decide +kernel
theorem dMo_weigh_39 : decode cMo_weigh 39 = .ok (.ireturn, 1) := by decide +kernel
theorem dMo_weigh_40 : decode cMo_weigh 40 = .ok (.bipush 9, 2) := by decide +kernel
theorem dMo_weigh_42 : decode cMo_weigh 42 = .ok (.aload_n 0, 1) := by decide +kernel
theorem dMo_weigh_43 : decode cMo_weigh 43 = .ok (.getfield 30, 3) := by decide +kernel
theorem dMo_weigh_46 : decode cMo_weigh 46 = .ok (.aload_n 0, 1) := by decide +kernel
theorem dMo_weigh_47 : decode cMo_weigh 47 = .ok (.invokevirtual 44, 3) := by decide +kernel
theorem dMo_weigh_50 : decode cMo_weigh 50 = .ok (.aload_n 0, 1) := by decide +kernel
theorem dMo_weigh_51 : decode cMo_weigh 51 = .ok (.invokevirtual 48, 3) := by decide +kernel
theorem dMo_weigh_54 : decode cMo_weigh 54 = .ok (.lsub, 1) := by decide +kernel
theorem dMo_weigh_55 : decode cMo_weigh 55 = .ok (.invokestatic 51, 3) := by decide +kernel
theorem dMo_weigh_58 : decode cMo_weigh 58 = .ok (.imul, 1) := by decide +kernel
theorem dMo_weigh_59 : decode cMo_weigh 59 = .ok (.invokestatic 54, 3) := by decide +kernel
theorem dMo_weigh_62 : decode cMo_weigh 62 = .ok (.iadd, 1) := by decide +kernel
theorem dMo_weigh_63 : decode cMo_weigh 63 = .ok (.ireturn, 1) := by decide +kernel
theorem dMo_weigh_64 : decode cMo_weigh 64 = .ok (.aload_n 0, 1) := by decide +kernel
theorem dMo_weigh_65 : decode cMo_weigh 65 = .ok (.invokevirtual 58, 3) := by decide +kernel
theorem dMo_weigh_68 : decode cMo_weigh 68 = .ok (.iconst 2, 1) := by decide +kernel
theorem dMo_weigh_69 : decode cMo_weigh 69 = .ok (.bipush 8, 2) := by decide +kernel
theorem dMo_weigh_71 : decode cMo_weigh 71 = .ok (.aload_n 0, 1) := by decide +kernel
theorem dMo_weigh_72 : decode cMo_weigh 72 = .ok (.getfield 37, 3) := by decide +kernel
theorem dMo_weigh_75 : decode cMo_weigh 75 = .ok (.imul, 1) := by decide +kernel
theorem dMo_weigh_76 : decode cMo_weigh 76 = .ok (.iadd, 1) := by decide +kernel
theorem dMo_weigh_77 : decode cMo_weigh 77 = .ok (.aload_n 0, 1) := by decide +kernel
theorem dMo_weigh_78 : decode cMo_weigh 78 = .ok (.getfield 30, 3) := by decide +kernel
theorem dMo_weigh_81 : decode cMo_weigh 81 = .ok (.aload_n 0, 1) := by decide +kernel
end
section
theorem dMo_weigh_82 : decode cMo_weigh 82 = .ok (.getfield 37, 3) := by decide +kernel
theorem dMo_weigh_85 : decode cMo_weigh 85 = .ok (.iconst 1, 1) := by decide +kernel
theorem dMo_weigh_86 : decode cMo_weigh 86 = .ok (.isub, 1) := by decide +kernel
theorem dMo_weigh_87 : decode cMo_weigh 87 = .ok (.i2l, 1) := by decide +kernel
theorem dMo_weigh_88 : decode cMo_weigh 88 = .ok (.invokestatic 51, 3) := by decide +kernel
theorem dMo_weigh_91 : decode cMo_weigh 91 = .ok (.imul, 1) := by decide +kernel
theorem dMo_weigh_92 : decode cMo_weigh 92 = .ok (.invokestatic 54, 3) := by decide +kernel
theorem dMo_weigh_95 : decode cMo_weigh 95 = .ok (.iadd, 1) := by decide +kernel
theorem dMo_weigh_96 : decode cMo_weigh 96 = .ok (.ireturn, 1) := by decide +kernel
theorem dMo_weigh_97 : decode cMo_weigh 97 = .ok (.iconst 2, 1) := by decide +kernel
theorem dMo_weigh_98 : decode cMo_weigh 98 = .ok (.bipush 10, 2) := by decide +kernel
theorem dMo_weigh_100 : decode cMo_weigh 100 = .ok (.aload_n 0, 1) := by decide +kernel
theorem dMo_weigh_101 : decode cMo_weigh 101 = .ok (.invokevirtual 61, 3) := by decide +kernel
theorem dMo_weigh_104 : decode cMo_weigh 104 = .ok (.imul, 1) := by decide +kernel
theorem dMo_weigh_105 : decode cMo_weigh 105 = .ok (.iadd, 1) := by decide +kernel
theorem dMo_weigh_106 : decode cMo_weigh 106 = .ok (.ireturn, 1) := by decide +kernel
theorem dMo_weigh_107 : decode cMo_weigh 107 = .ok (.bipush 17, 2) := by decide +kernel
theorem dMo_weigh_109 : decode cMo_weigh 109 = .ok (.aload_n 0, 1) := by decide +kernel
theorem dMo_weigh_110 : decode cMo_weigh 110 = .ok (.getfield 30, 3) := by decide +kernel
theorem dMo_weigh_113 : decode cMo_weigh 113 = .ok (.iconst 1, 1) := by decide +kernel
theorem dMo_weigh_114 : decode cMo_weigh 114 = .ok (.isub, 1) := by decide +kernel
theorem dMo_weigh_115 : decode cMo_weigh 115 = .ok (.aload_n 0, 1) := by decide +kernel
theorem dMo_weigh_116 : decode cMo_weigh 116 = .ok (.invokevirtual 65, 3) := by decide +kernel
theorem dMo_weigh_119 : decode cMo_weigh 119 = .ok (.aload_n 0, 1) := by decide +kernel
theorem dMo_weigh_120 : decode cMo_weigh 120 = .ok (.invokevirtual 68, 3) := by decide +kernel
theorem dMo_weigh_123 : decode cMo_weigh 123 = .ok (.lsub, 1) := by decide +kernel
theorem dMo_weigh_124 : decode cMo_weigh 124 = .ok (.invokestatic 51, 3) := by decide +kernel
theorem dMo_weigh_127 : decode cMo_weigh 127 = .ok (.imul, 1) := by decide +kernel
theorem dMo_weigh_128 : decode cMo_weigh 128 = .ok (.invokestatic 54, 3) := by decide +kernel
theorem dMo_weigh_131 : decode cMo_weigh 131 = .ok (.iadd, 1) := by decide +kernel
theorem dMo_weigh_132 : decode cMo_weigh 132 = .ok (.ireturn, 1) := by decide +kernel
theorem dMo_greatest_0 : decode cMo_greatest 0 = .ok (.aload_n 0, 1) := by decide +kernel
theorem dMo_greatest_1 : decode cMo_greatest 1 = .ok (.getfield 7, 3) := by decide +kernel
theorem dMo_greatest_4 : decode cMo_greatest 4 = .ok (.iconst 0, 1) := by decide +kernel
theorem dMo_greatest_5 : decode cMo_greatest 5 = .ok (.laload, 1) := by decide +kernel
theorem dMo_greatest_6 : decode cMo_greatest 6 = .ok (.lstore_n 1, 1) := by decide +kernel
theorem dMo_greatest_7 : decode cMo_greatest 7 = .ok (.iconst 1, 1) := by decide +kernel
theorem dMo_greatest_8 : decode cMo_greatest 8 = .ok (.istore_n 3, 1) := by decide +kernel
theorem dMo_greatest_9 : decode cMo_greatest 9 = .ok (.iload_n 3, 1) := by decide +kernel
theorem dMo_greatest_10 : decode cMo_greatest 10 = .ok (.aload_n 0, 1) := by decide +kernel
theorem dMo_greatest_11 : decode cMo_greatest 11 = .ok (.getfield 30, 3) := by decide +kernel
theorem dMo_greatest_14 : decode cMo_greatest 14 = .ok (.if_icmp .ge 31, 3) := by decide +kernel
theorem dMo_greatest_17 : decode cMo_greatest 17 = .ok (.aload_n 0, 1) := by decide +kernel
theorem dMo_greatest_18 : decode cMo_greatest 18 = .ok (.getfield 7, 3) := by decide +kernel
theorem dMo_greatest_21 : decode cMo_greatest 21 = .ok (.iload_n 3, 1) := by decide +kernel
theorem dMo_greatest_22 : decode cMo_greatest 22 = .ok (.laload, 1) := by decide +kernel
theorem dMo_greatest_23 : decode cMo_greatest 23 = .ok (.lload_n 1, 1) := by decide +kernel
theorem dMo_greatest_24 : decode cMo_greatest 24 = .ok (.lcmp, 1) := by decide +kernel
theorem dMo_greatest_25 : decode cMo_greatest 25 = .ok (.ifCond .le 12, 3) := by decide +kernel
theorem dMo_greatest_28 : decode cMo_greatest 28 = .ok (.aload_n 0, 1) := by decide +kernel
theorem dMo_greatest_29 : decode cMo_greatest 29 = .ok (.getfield 7, 3) := by decide +kernel
theorem dMo_greatest_32 : decode cMo_greatest 32 = .ok (.iload_n 3, 1) := by decide +kernel
theorem dMo_greatest_33 : decode cMo_greatest 33 = .ok (.laload, 1) := by decide +kernel
theorem dMo_greatest_34 : decode cMo_greatest 34 = .ok (.goto 4, 3) := by decide +kernel
theorem dMo_greatest_37 : decode cMo_greatest 37 = .ok (.lload_n 1, 1) := by decide +kernel
theorem dMo_greatest_38 : decode cMo_greatest 38 = .ok (.lstore_n 1, 1) := by decide +kernel
theorem dMo_greatest_39 : decode cMo_greatest 39 = .ok (.iinc 3 1, 3) := by decide +kernel
theorem dMo_greatest_42 : decode cMo_greatest 42 = .ok (.goto (-33), 3) := by decide +kernel
theorem dMo_greatest_45 : decode cMo_greatest 45 = .ok (.lload_n 1, 1) := by decide +kernel
theorem dMo_greatest_46 : decode cMo_greatest 46 = .ok (.lreturn, 1) := by decide +kernel
theorem dMo_least_0 : decode cMo_least 0 = .ok (.aload_n 0, 1) := by decide +kernel
theorem dMo_least_1 : decode cMo_least 1 = .ok (.getfield 7, 3) := by decide +kernel
theorem dMo_least_4 : decode cMo_least 4 = .ok (.iconst 0, 1) := by decide +kernel
theorem dMo_least_5 : decode cMo_least 5 = .ok (.laload, 1) := by decide +kernel
theorem dMo_least_6 : decode cMo_least 6 = .ok (.lstore_n 1, 1) := by decide +kernel
theorem dMo_least_7 : decode cMo_least 7 = .ok (.iconst 1, 1) := by decide +kernel
theorem dMo_least_8 : decode cMo_least 8 = .ok (.istore_n 3, 1) := by decide +kernel
theorem dMo_least_9 : decode cMo_least 9 = .ok (.iload_n 3, 1) := by decide +kernel
theorem dMo_least_10 : decode cMo_least 10 = .ok (.aload_n 0, 1) := by decide +kernel
theorem dMo_least_11 : decode cMo_least 11 = .ok (.getfield 30, 3) := by decide +kernel
theorem dMo_least_14 : decode cMo_least 14 = .ok (.if_icmp .ge 31, 3) := by decide +kernel
theorem dMo_least_17 : decode cMo_least 17 = .ok (.aload_n 0, 1) := by decide +kernel
theorem dMo_least_18 : decode cMo_least 18 = .ok (.getfield 7, 3) := by decide +kernel
theorem dMo_least_21 : decode cMo_least 21 = .ok (.iload_n 3, 1) := by decide +kernel
theorem dMo_least_22 : decode cMo_least 22 = .ok (.laload, 1) := by decide +kernel
theorem dMo_least_23 : decode cMo_least 23 = .ok (.lload_n 1, 1) := by decide +kernel
theorem dMo_least_24 : decode cMo_least 24 = .ok (.lcmp, 1) := by decide +kernel
theorem dMo_least_25 : decode cMo_least 25 = .ok (.ifCond .ge 12, 3) := by decide +kernel
theorem dMo_least_28 : decode cMo_least 28 = .ok (.aload_n 0, 1) := by decide +kernel
theorem dMo_least_29 : decode cMo_least 29 = .ok (.getfield 7, 3) := by decide +kernel
theorem dMo_least_32 : decode cMo_least 32 = .ok (.iload_n 3, 1) := by decide +kernel
theorem dMo_least_33 : decode cMo_least 33 = .ok (.laload, 1) := by decide +kernel
theorem dMo_least_34 : decode cMo_least 34 = .ok (.goto 4, 3) := by decide +kernel
theorem dMo_least_37 : decode cMo_least 37 = .ok (.lload_n 1, 1) := by decide +kernel
theorem dMo_least_38 : decode cMo_least 38 = .ok (.lstore_n 1, 1) := by decide +kernel
theorem dMo_least_39 : decode cMo_least 39 = .ok (.iinc 3 1, 3) := by decide +kernel
theorem dMo_least_42 : decode cMo_least 42 = .ok (.goto (-33), 3) := by decide +kernel
theorem dMo_least_45 : decode cMo_least 45 = .ok (.lload_n 1, 1) := by decide +kernel
theorem dMo_least_46 : decode cMo_least 46 = .ok (.lreturn, 1) := by decide +kernel
theorem dMo_digits_0 : decode cMo_digits 0 = .ok (.iconst 0, 1) := by decide +kernel
theorem dMo_digits_1 : decode cMo_digits 1 = .ok (.istore_n 2, 1) := by decide +kernel
theorem dMo_digits_2 : decode cMo_digits 2 = .ok (.iconst 0, 1) := by decide +kernel
theorem dMo_digits_3 : decode cMo_digits 3 = .ok (.istore_n 3, 1) := by decide +kernel
theorem dMo_digits_4 : decode cMo_digits 4 = .ok (.iload_n 3, 1) := by decide +kernel
theorem dMo_digits_5 : decode cMo_digits 5 = .ok (.bipush 64, 2) := by decide +kernel
theorem dMo_digits_7 : decode cMo_digits 7 = .ok (.if_icmp .ge 27, 3) := by decide +kernel
theorem dMo_digits_10 : decode cMo_digits 10 = .ok (.lload_n 0, 1) := by decide +kernel
theorem dMo_digits_11 : decode cMo_digits 11 = .ok (.iload_n 3, 1) := by decide +kernel
theorem dMo_digits_12 : decode cMo_digits 12 = .ok (.lshr, 1) := by decide +kernel
theorem dMo_digits_13 : decode cMo_digits 13 = .ok (.lconst 1, 1) := by decide +kernel
theorem dMo_digits_14 : decode cMo_digits 14 = .ok (.land, 1) := by decide +kernel
theorem dMo_digits_15 : decode cMo_digits 15 = .ok (.lconst 1, 1) := by decide +kernel
theorem dMo_digits_16 : decode cMo_digits 16 = .ok (.lcmp, 1) := by decide +kernel
theorem dMo_digits_17 : decode cMo_digits 17 = .ok (.ifCond .ne 9, 3) := by decide +kernel
theorem dMo_digits_20 : decode cMo_digits 20 = .ok (.iload_n 3, 1) := by decide +kernel
theorem dMo_digits_21 : decode cMo_digits 21 = .ok (.iconst 1, 1) := by decide +kernel
theorem dMo_digits_22 : decode cMo_digits 22 = .ok (.iadd, 1) := by decide +kernel
theorem dMo_digits_23 : decode cMo_digits 23 = .ok (.goto 4, 3) := by decide +kernel
theorem dMo_digits_26 : decode cMo_digits 26 = .ok (.iload_n 2, 1) := by decide +kernel
theorem dMo_digits_27 : decode cMo_digits 27 = .ok (.istore_n 2, 1) := by decide +kernel
theorem dMo_digits_28 : decode cMo_digits 28 = .ok (.iinc 3 1, 3) := by decide +kernel
theorem dMo_digits_31 : decode cMo_digits 31 = .ok (.goto (-27), 3) := by decide +kernel
theorem dMo_digits_34 : decode cMo_digits 34 = .ok (.iload_n 2, 1) := by decide +kernel
theorem dMo_digits_35 : decode cMo_digits 35 = .ok (.ireturn, 1) := by decide +kernel
theorem dMo_whole_0 : decode cMo_whole 0 = .ok (.iload_n 0, 1) := by decide +kernel
theorem dMo_whole_1 : decode cMo_whole 1 = .ok (.bipush 7, 2) := by decide +kernel
theorem dMo_whole_3 : decode cMo_whole 3 = .ok (.iadd, 1) := by decide +kernel
theorem dMo_whole_4 : decode cMo_whole 4 = .ok (.bipush 8, 2) := by decide +kernel
theorem dMo_whole_6 : decode cMo_whole 6 = .ok (.idiv, 1) := by decide +kernel
theorem dMo_whole_7 : decode cMo_whole 7 = .ok (.ireturn, 1) := by decide +kernel
theorem dMo_listAll_0 : decode cMo_listAll 0 = .ok (.aload_n 0, 1) := by decide +kernel
theorem dMo_listAll_1 : decode cMo_listAll 1 = .ok (.iconst 0, 1) := by decide +kernel
theorem dMo_listAll_2 : decode cMo_listAll 2 = .ok (.putfield 37, 3) := by decide +kernel
theorem dMo_listAll_5 : decode cMo_listAll 5 = .ok (.iconst 0, 1) := by decide +kernel
theorem dMo_listAll_6 : decode cMo_listAll 6 = .ok (.istore_n 1, 1) := by decide +kernel
theorem dMo_listAll_7 : decode cMo_listAll 7 = .ok (.iload_n 1, 1) := by decide +kernel
theorem dMo_listAll_8 : decode cMo_listAll 8 = .ok (.aload_n 0, 1) := by decide +kernel
theorem dMo_listAll_9 : decode cMo_listAll 9 = .ok (.getfield 30, 3) := by decide +kernel
theorem dMo_listAll_12 : decode cMo_listAll 12 = .ok (.if_icmp .ge 96, 3) := by decide +kernel
theorem dMo_listAll_15 : decode cMo_listAll 15 = .ok (.aload_n 0, 1) := by decide +kernel
theorem dMo_listAll_16 : decode cMo_listAll 16 = .ok (.aload_n 0, 1) := by decide +kernel
theorem dMo_listAll_17 : decode cMo_listAll 17 = .ok (.getfield 7, 3) := by decide +kernel
theorem dMo_listAll_20 : decode cMo_listAll 20 = .ok (.iload_n 1, 1) := by decide +kernel
theorem dMo_listAll_21 : decode cMo_listAll 21 = .ok (.laload, 1) := by decide +kernel
theorem dMo_listAll_22 : decode cMo_listAll 22 = .ok (.invokevirtual 40, 3) := by decide +kernel
theorem dMo_listAll_25 : decode cMo_listAll 25 = .ok (.istore_n 2, 1) := by decide +kernel
theorem dMo_listAll_26 : decode cMo_listAll 26 = .ok (.iload_n 2, 1) := by decide +kernel
theorem dMo_listAll_27 : decode cMo_listAll 27 = .ok (.aload_n 0, 1) := by decide +kernel
theorem dMo_listAll_28 : decode cMo_listAll 28 = .ok (.getfield 37, 3) := by decide +kernel
theorem dMo_listAll_31 : decode cMo_listAll 31 = .ok (.if_icmp .eq 19, 3) := by decide +kernel
theorem dMo_listAll_34 : decode cMo_listAll 34 = .ok (.aload_n 0, 1) := by decide +kernel
theorem dMo_listAll_35 : decode cMo_listAll 35 = .ok (.getfield 24, 3) := by decide +kernel
theorem dMo_listAll_38 : decode cMo_listAll 38 = .ok (.iload_n 2, 1) := by decide +kernel
theorem dMo_listAll_39 : decode cMo_listAll 39 = .ok (.laload, 1) := by decide +kernel
theorem dMo_listAll_40 : decode cMo_listAll 40 = .ok (.aload_n 0, 1) := by decide +kernel
theorem dMo_listAll_41 : decode cMo_listAll 41 = .ok (.getfield 7, 3) := by decide +kernel
theorem dMo_listAll_44 : decode cMo_listAll 44 = .ok (.iload_n 1, 1) := by decide +kernel
theorem dMo_listAll_45 : decode cMo_listAll 45 = .ok (.laload, 1) := by decide +kernel
theorem dMo_listAll_46 : decode cMo_listAll 46 = .ok (.lcmp, 1) := by decide +kernel
theorem dMo_listAll_47 : decode cMo_listAll 47 = .ok (.ifCond .eq 55, 3) := by decide +kernel
theorem dMo_listAll_50 : decode cMo_listAll 50 = .ok (.aload_n 0, 1) := by decide +kernel
theorem dMo_listAll_51 : decode cMo_listAll 51 = .ok (.getfield 37, 3) := by decide +kernel
theorem dMo_listAll_54 : decode cMo_listAll 54 = .ok (.istore_n 3, 1) := by decide +kernel
theorem dMo_listAll_55 : decode cMo_listAll 55 = .ok (.iload_n 3, 1) := by decide +kernel
theorem dMo_listAll_56 : decode cMo_listAll 56 = .ok (.iload_n 2, 1) := by decide +kernel
theorem dMo_listAll_57 : decode cMo_listAll 57 = .ok (.if_icmp .le 23, 3) := by decide +kernel
theorem dMo_listAll_60 : decode cMo_listAll 60 = .ok (.aload_n 0, 1) := by decide +kernel
theorem dMo_listAll_61 : decode cMo_listAll 61 = .ok (.getfield 24, 3) := by decide +kernel
theorem dMo_listAll_64 : decode cMo_listAll 64 = .ok (.iload_n 3, 1) := by decide +kernel
theorem dMo_listAll_65 : decode cMo_listAll 65 = .ok (.aload_n 0, 1) := by decide +kernel
theorem dMo_listAll_66 : decode cMo_listAll 66 = .ok (.getfield 24, 3) := by decide +kernel
theorem dMo_listAll_69 : decode cMo_listAll 69 = .ok (.iload_n 3, 1) := by decide +kernel
theorem dMo_listAll_70 : decode cMo_listAll 70 = .ok (.iconst 1, 1) := by decide +kernel
theorem dMo_listAll_71 : decode cMo_listAll 71 = .ok (.isub, 1) := by decide +kernel
theorem dMo_listAll_72 : decode cMo_listAll 72 = .ok (.laload, 1) := by decide +kernel
theorem dMo_listAll_73 : decode cMo_listAll 73 = .ok (.lastore, 1) := by decide +kernel
theorem dMo_listAll_74 : decode cMo_listAll 74 = .ok (.iinc 3 (-1), 3) := by decide +kernel
theorem dMo_listAll_77 : decode cMo_listAll 77 = .ok (.goto (-22), 3) := by decide +kernel
theorem dMo_listAll_80 : decode cMo_listAll 80 = .ok (.aload_n 0, 1) := by decide +kernel
theorem dMo_listAll_81 : decode cMo_listAll 81 = .ok (.getfield 24, 3) := by decide +kernel
theorem dMo_listAll_84 : decode cMo_listAll 84 = .ok (.iload_n 2, 1) := by decide +kernel
theorem dMo_listAll_85 : decode cMo_listAll 85 = .ok (.aload_n 0, 1) := by decide +kernel
theorem dMo_listAll_86 : decode cMo_listAll 86 = .ok (.getfield 7, 3) := by decide +kernel
theorem dMo_listAll_89 : decode cMo_listAll 89 = .ok (.iload_n 1, 1) := by decide +kernel
theorem dMo_listAll_90 : decode cMo_listAll 90 = .ok (.laload, 1) := by decide +kernel
theorem dMo_listAll_91 : decode cMo_listAll 91 = .ok (.lastore, 1) := by decide +kernel
theorem dMo_listAll_92 : decode cMo_listAll 92 = .ok (.aload_n 0, 1) := by decide +kernel
theorem dMo_listAll_93 : decode cMo_listAll 93 = .ok (.dup, 1) := by decide +kernel
theorem dMo_listAll_94 : decode cMo_listAll 94 = .ok (.getfield 37, 3) := by decide +kernel
theorem dMo_listAll_97 : decode cMo_listAll 97 = .ok (.iconst 1, 1) := by decide +kernel
theorem dMo_listAll_98 : decode cMo_listAll 98 = .ok (.iadd, 1) := by decide +kernel
theorem dMo_listAll_99 : decode cMo_listAll 99 = .ok (.putfield 37, 3) := by decide +kernel
theorem dMo_listAll_102 : decode cMo_listAll 102 = .ok (.iinc 1 1, 3) := by decide +kernel
theorem dMo_listAll_105 : decode cMo_listAll 105 = .ok (.goto (-98), 3) := by decide +kernel
theorem dMo_listAll_108 : decode cMo_listAll 108 = .ok (.return_, 1) := by decide +kernel
theorem dMo_placeOf_0 : decode cMo_placeOf 0 = .ok (.iconst 0, 1) := by decide +kernel
theorem dMo_placeOf_1 : decode cMo_placeOf 1 = .ok (.istore_n 3, 1) := by decide +kernel
theorem dMo_placeOf_2 : decode cMo_placeOf 2 = .ok (.iload_n 3, 1) := by decide +kernel
theorem dMo_placeOf_3 : decode cMo_placeOf 3 = .ok (.aload_n 0, 1) := by decide +kernel
theorem dMo_placeOf_4 : decode cMo_placeOf 4 = .ok (.getfield 37, 3) := by decide +kernel
theorem dMo_placeOf_7 : decode cMo_placeOf 7 = .ok (.if_icmp .ge 20, 3) := by decide +kernel
theorem dMo_placeOf_10 : decode cMo_placeOf 10 = .ok (.aload_n 0, 1) := by decide +kernel
theorem dMo_placeOf_11 : decode cMo_placeOf 11 = .ok (.getfield 24, 3) := by decide +kernel
theorem dMo_placeOf_14 : decode cMo_placeOf 14 = .ok (.iload_n 3, 1) := by decide +kernel
theorem dMo_placeOf_15 : decode cMo_placeOf 15 = .ok (.laload, 1) := by decide +kernel
theorem dMo_placeOf_16 : decode cMo_placeOf 16 = .ok (.lload_n 1, 1) := by decide +kernel
theorem dMo_placeOf_17 : decode cMo_placeOf 17 = .ok (.lcmp, 1) := by decide +kernel
theorem dMo_placeOf_18 : decode cMo_placeOf 18 = .ok (.ifCond .ge 9, 3) := by decide +kernel
theorem dMo_placeOf_21 : decode cMo_placeOf 21 = .ok (.iinc 3 1, 3) := by decide +kernel
theorem dMo_placeOf_24 : decode cMo_placeOf 24 = .ok (.goto (-22), 3) := by decide +kernel
theorem dMo_placeOf_27 : decode cMo_placeOf 27 = .ok (.iload_n 3, 1) := by decide +kernel
theorem dMo_placeOf_28 : decode cMo_placeOf 28 = .ok (.ireturn, 1) := by decide +kernel
theorem dMo_runs_0 : decode cMo_runs 0 = .ok (.iconst 1, 1) := by decide +kernel
theorem dMo_runs_1 : decode cMo_runs 1 = .ok (.istore_n 1, 1) := by decide +kernel
theorem dMo_runs_2 : decode cMo_runs 2 = .ok (.iconst 1, 1) := by decide +kernel
theorem dMo_runs_3 : decode cMo_runs 3 = .ok (.istore_n 2, 1) := by decide +kernel
theorem dMo_runs_4 : decode cMo_runs 4 = .ok (.iload_n 2, 1) := by decide +kernel
theorem dMo_runs_5 : decode cMo_runs 5 = .ok (.aload_n 0, 1) := by decide +kernel
theorem dMo_runs_6 : decode cMo_runs 6 = .ok (.getfield 30, 3) := by decide +kernel
theorem dMo_runs_9 : decode cMo_runs 9 = .ok (.if_icmp .ge 35, 3) := by decide +kernel
theorem dMo_runs_12 : decode cMo_runs 12 = .ok (.iload_n 1, 1) := by decide +kernel
theorem dMo_runs_13 : decode cMo_runs 13 = .ok (.aload_n 0, 1) := by decide +kernel
theorem dMo_runs_14 : decode cMo_runs 14 = .ok (.getfield 7, 3) := by decide +kernel
theorem dMo_runs_17 : decode cMo_runs 17 = .ok (.iload_n 2, 1) := by decide +kernel
theorem dMo_runs_18 : decode cMo_runs 18 = .ok (.laload, 1) := by decide +kernel
theorem dMo_runs_19 : decode cMo_runs 19 = .ok (.aload_n 0, 1) := by decide +kernel
theorem dMo_runs_20 : decode cMo_runs 20 = .ok (.getfield 7, 3) := by decide +kernel
theorem dMo_runs_23 : decode cMo_runs 23 = .ok (.iload_n 2, 1) := by decide +kernel
theorem dMo_runs_24 : decode cMo_runs 24 = .ok (.iconst 1, 1) := by decide +kernel
theorem dMo_runs_25 : decode cMo_runs 25 = .ok (.isub, 1) := by decide +kernel
theorem dMo_runs_26 : decode cMo_runs 26 = .ok (.laload, 1) := by decide +kernel
theorem dMo_runs_27 : decode cMo_runs 27 = .ok (.lcmp, 1) := by decide +kernel
theorem dMo_runs_28 : decode cMo_runs 28 = .ok (.ifCond .eq 7, 3) := by decide +kernel
theorem dMo_runs_31 : decode cMo_runs 31 = .ok (.iconst 1, 1) := by decide +kernel
theorem dMo_runs_32 : decode cMo_runs 32 = .ok (.goto 4, 3) := by decide +kernel
theorem dMo_runs_35 : decode cMo_runs 35 = .ok (.iconst 0, 1) := by decide +kernel
theorem dMo_runs_36 : decode cMo_runs 36 = .ok (.iadd, 1) := by decide +kernel
theorem dMo_runs_37 : decode cMo_runs 37 = .ok (.istore_n 1, 1) := by decide +kernel
theorem dMo_runs_38 : decode cMo_runs 38 = .ok (.iinc 2 1, 3) := by decide +kernel
theorem dMo_runs_41 : decode cMo_runs 41 = .ok (.goto (-37), 3) := by decide +kernel
theorem dMo_runs_44 : decode cMo_runs 44 = .ok (.iload_n 1, 1) := by decide +kernel
theorem dMo_runs_45 : decode cMo_runs 45 = .ok (.ireturn, 1) := by decide +kernel
theorem dMo_greatestStep_0 : decode cMo_greatestStep 0 = .ok (.aload_n 0, 1) := by decide +kernel
theorem dMo_greatestStep_1 : decode cMo_greatestStep 1 = .ok (.getfield 30, 3) := by decide +kernel
theorem dMo_greatestStep_4 : decode cMo_greatestStep 4 = .ok (.iconst 1, 1) := by decide +kernel
theorem dMo_greatestStep_5 : decode cMo_greatestStep 5 = .ok (.if_icmp .le 11, 3) := by decide +kernel
theorem dMo_greatestStep_8 : decode cMo_greatestStep 8 = .ok (.aload_n 0, 1) := by decide +kernel
theorem dMo_greatestStep_9 : decode cMo_greatestStep 9 = .ok (.iconst 1, 1) := by decide +kernel
theorem dMo_greatestStep_10 : decode cMo_greatestStep 10 = .ok (.invokevirtual 33, 3) := by decide +kernel
theorem dMo_greatestStep_13 : decode cMo_greatestStep 13 = .ok (.goto 4, 3) := by decide +kernel
theorem dMo_greatestStep_16 : decode cMo_greatestStep 16 = .ok (.lconst 0, 1) := by decide +kernel
theorem dMo_greatestStep_17 : decode cMo_greatestStep 17 = .ok (.lstore_n 1, 1) := by decide +kernel
theorem dMo_greatestStep_18 : decode cMo_greatestStep 18 = .ok (.iconst 2, 1) := by decide +kernel
theorem dMo_greatestStep_19 : decode cMo_greatestStep 19 = .ok (.istore_n 3, 1) := by decide +kernel
theorem dMo_greatestStep_20 : decode cMo_greatestStep 20 = .ok (.iload_n 3, 1) := by decide +kernel
theorem dMo_greatestStep_21 : decode cMo_greatestStep 21 = .ok (.aload_n 0, 1) := by decide +kernel
theorem dMo_greatestStep_22 : decode cMo_greatestStep 22 = .ok (.getfield 30, 3) := by decide +kernel
theorem dMo_greatestStep_25 : decode cMo_greatestStep 25 = .ok (.if_icmp .ge 29, 3) := by decide +kernel
theorem dMo_greatestStep_28 : decode cMo_greatestStep 28 = .ok (.aload_n 0, 1) := by decide +kernel
theorem dMo_greatestStep_29 : decode cMo_greatestStep 29 = .ok (.iload_n 3, 1) := by decide +kernel
theorem dMo_greatestStep_30 : decode cMo_greatestStep 30 = .ok (.invokevirtual 33, 3) := by decide +kernel
theorem dMo_greatestStep_33 : decode cMo_greatestStep 33 = .ok (.lload_n 1, 1) := by decide +kernel
theorem dMo_greatestStep_34 : decode cMo_greatestStep 34 = .ok (.lcmp, 1) := by decide +kernel
theorem dMo_greatestStep_35 : decode cMo_greatestStep 35 = .ok (.ifCond .le 11, 3) := by decide +kernel
theorem dMo_greatestStep_38 : decode cMo_greatestStep 38 = .ok (.aload_n 0, 1) := by decide +kernel
theorem dMo_greatestStep_39 : decode cMo_greatestStep 39 = .ok (.iload_n 3, 1) := by decide +kernel
theorem dMo_greatestStep_40 : decode cMo_greatestStep 40 = .ok (.invokevirtual 33, 3) := by decide +kernel
theorem dMo_greatestStep_43 : decode cMo_greatestStep 43 = .ok (.goto 4, 3) := by decide +kernel
theorem dMo_greatestStep_46 : decode cMo_greatestStep 46 = .ok (.lload_n 1, 1) := by decide +kernel
theorem dMo_greatestStep_47 : decode cMo_greatestStep 47 = .ok (.lstore_n 1, 1) := by decide +kernel
theorem dMo_greatestStep_48 : decode cMo_greatestStep 48 = .ok (.iinc 3 1, 3) := by decide +kernel
theorem dMo_greatestStep_51 : decode cMo_greatestStep 51 = .ok (.goto (-31), 3) := by decide +kernel
theorem dMo_greatestStep_54 : decode cMo_greatestStep 54 = .ok (.lload_n 1, 1) := by decide +kernel
theorem dMo_greatestStep_55 : decode cMo_greatestStep 55 = .ok (.lreturn, 1) := by decide +kernel
theorem dMo_step_0 : decode cMo_step 0 = .ok (.aload_n 0, 1) := by decide +kernel
theorem dMo_step_1 : decode cMo_step 1 = .ok (.getfield 7, 3) := by decide +kernel
theorem dMo_step_4 : decode cMo_step 4 = .ok (.iload_n 1, 1) := by decide +kernel
theorem dMo_step_5 : decode cMo_step 5 = .ok (.laload, 1) := by decide +kernel
theorem dMo_step_6 : decode cMo_step 6 = .ok (.aload_n 0, 1) := by decide +kernel
theorem dMo_step_7 : decode cMo_step 7 = .ok (.getfield 7, 3) := by decide +kernel
theorem dMo_step_10 : decode cMo_step 10 = .ok (.iload_n 1, 1) := by decide +kernel
theorem dMo_step_11 : decode cMo_step 11 = .ok (.iconst 1, 1) := by decide +kernel
theorem dMo_step_12 : decode cMo_step 12 = .ok (.isub, 1) := by decide +kernel
theorem dMo_step_13 : decode cMo_step 13 = .ok (.laload, 1) := by decide +kernel
theorem dMo_step_14 : decode cMo_step 14 = .ok (.lsub, 1) := by decide +kernel
theorem dMo_step_15 : decode cMo_step 15 = .ok (.lreturn, 1) := by decide +kernel
theorem dMo_leastStep_0 : decode cMo_leastStep 0 = .ok (.aload_n 0, 1) := by decide +kernel
theorem dMo_leastStep_1 : decode cMo_leastStep 1 = .ok (.getfield 30, 3) := by decide +kernel
theorem dMo_leastStep_4 : decode cMo_leastStep 4 = .ok (.iconst 1, 1) := by decide +kernel
theorem dMo_leastStep_5 : decode cMo_leastStep 5 = .ok (.if_icmp .le 11, 3) := by decide +kernel
theorem dMo_leastStep_8 : decode cMo_leastStep 8 = .ok (.aload_n 0, 1) := by decide +kernel
theorem dMo_leastStep_9 : decode cMo_leastStep 9 = .ok (.iconst 1, 1) := by decide +kernel
theorem dMo_leastStep_10 : decode cMo_leastStep 10 = .ok (.invokevirtual 33, 3) := by decide +kernel
theorem dMo_leastStep_13 : decode cMo_leastStep 13 = .ok (.goto 4, 3) := by decide +kernel
theorem dMo_leastStep_16 : decode cMo_leastStep 16 = .ok (.lconst 0, 1) := by decide +kernel
theorem dMo_leastStep_17 : decode cMo_leastStep 17 = .ok (.lstore_n 1, 1) := by decide +kernel
theorem dMo_leastStep_18 : decode cMo_leastStep 18 = .ok (.iconst 2, 1) := by decide +kernel
theorem dMo_leastStep_19 : decode cMo_leastStep 19 = .ok (.istore_n 3, 1) := by decide +kernel
theorem dMo_leastStep_20 : decode cMo_leastStep 20 = .ok (.iload_n 3, 1) := by decide +kernel
theorem dMo_leastStep_21 : decode cMo_leastStep 21 = .ok (.aload_n 0, 1) := by decide +kernel
theorem dMo_leastStep_22 : decode cMo_leastStep 22 = .ok (.getfield 30, 3) := by decide +kernel
theorem dMo_leastStep_25 : decode cMo_leastStep 25 = .ok (.if_icmp .ge 29, 3) := by decide +kernel
theorem dMo_leastStep_28 : decode cMo_leastStep 28 = .ok (.aload_n 0, 1) := by decide +kernel
theorem dMo_leastStep_29 : decode cMo_leastStep 29 = .ok (.iload_n 3, 1) := by decide +kernel
theorem dMo_leastStep_30 : decode cMo_leastStep 30 = .ok (.invokevirtual 33, 3) := by decide +kernel
theorem dMo_leastStep_33 : decode cMo_leastStep 33 = .ok (.lload_n 1, 1) := by decide +kernel
theorem dMo_leastStep_34 : decode cMo_leastStep 34 = .ok (.lcmp, 1) := by decide +kernel
theorem dMo_leastStep_35 : decode cMo_leastStep 35 = .ok (.ifCond .ge 11, 3) := by decide +kernel
theorem dMo_leastStep_38 : decode cMo_leastStep 38 = .ok (.aload_n 0, 1) := by decide +kernel
theorem dMo_leastStep_39 : decode cMo_leastStep 39 = .ok (.iload_n 3, 1) := by decide +kernel
theorem dMo_leastStep_40 : decode cMo_leastStep 40 = .ok (.invokevirtual 33, 3) := by decide +kernel
theorem dMo_leastStep_43 : decode cMo_leastStep 43 = .ok (.goto 4, 3) := by decide +kernel
theorem dMo_leastStep_46 : decode cMo_leastStep 46 = .ok (.lload_n 1, 1) := by decide +kernel
theorem dMo_leastStep_47 : decode cMo_leastStep 47 = .ok (.lstore_n 1, 1) := by decide +kernel
theorem dMo_leastStep_48 : decode cMo_leastStep 48 = .ok (.iinc 3 1, 3) := by decide +kernel
theorem dMo_leastStep_51 : decode cMo_leastStep 51 = .ok (.goto (-31), 3) := by decide +kernel
theorem dMo_leastStep_54 : decode cMo_leastStep 54 = .ok (.lload_n 1, 1) := by decide +kernel
theorem dMo_leastStep_55 : decode cMo_leastStep 55 = .ok (.lreturn, 1) := by decide +kernel
theorem dMo_write_0 : decode cMo_write 0 = .ok (.aload_n 0, 1) := by decide +kernel
theorem dMo_write_1 : decode cMo_write 1 = .ok (.aload_n 0, 1) := by decide +kernel
theorem dMo_write_2 : decode cMo_write 2 = .ok (.getfield 30, 3) := by decide +kernel
theorem dMo_write_5 : decode cMo_write 5 = .ok (.ifCond .ne 7, 3) := by decide +kernel
theorem dMo_write_8 : decode cMo_write 8 = .ok (.iconst 1, 1) := by decide +kernel
theorem dMo_write_9 : decode cMo_write 9 = .ok (.goto 4, 3) := by decide +kernel
theorem dMo_write_12 : decode cMo_write 12 = .ok (.iconst 0, 1) := by decide +kernel
theorem dMo_write_13 : decode cMo_write 13 = .ok (.putfield 27, 3) := by decide +kernel
theorem dMo_write_16 : decode cMo_write 16 = .ok (.aload_n 0, 1) := by decide +kernel
theorem dMo_write_17 : decode cMo_write 17 = .ok (.getfield 27, 3) := by decide +kernel
theorem dMo_write_20 : decode cMo_write 20 = .ok (.ifCond .le 5, 3) := by decide +kernel
theorem dMo_write_23 : decode cMo_write 23 = .ok (.iconst 0, 1) := by decide +kernel
theorem dMo_write_24 : decode cMo_write 24 = .ok (.ireturn, 1) := by decide +kernel
theorem dMo_write_25 : decode cMo_write 25 = .ok (.iconst 0, 1) := by decide +kernel
theorem dMo_write_26 : decode cMo_write 26 = .ok (.istore_n 1, 1) := by decide +kernel
theorem dMo_write_27 : decode cMo_write 27 = .ok (.iconst 1, 1) := by decide +kernel
theorem dMo_write_28 : decode cMo_write 28 = .ok (.istore_n 2, 1) := by decide +kernel
theorem dMo_write_29 : decode cMo_write 29 = .ok (.iload_n 2, 1) := by decide +kernel
theorem dMo_write_30 : decode cMo_write 30 = .ok (.iconst 5, 1) := by decide +kernel
theorem dMo_write_31 : decode cMo_write 31 = .ok (.if_icmp .ge 28, 3) := by decide +kernel
theorem dMo_write_34 : decode cMo_write 34 = .ok (.aload_n 0, 1) := by decide +kernel
theorem dMo_write_35 : decode cMo_write 35 = .ok (.iload_n 2, 1) := by decide +kernel
theorem dMo_write_36 : decode cMo_write 36 = .ok (.invokevirtual 71, 3) := by decide +kernel
theorem dMo_write_39 : decode cMo_write 39 = .ok (.aload_n 0, 1) := by decide +kernel
theorem dMo_write_40 : decode cMo_write 40 = .ok (.iload_n 1, 1) := by decide +kernel
theorem dMo_write_41 : decode cMo_write 41 = .ok (.invokevirtual 71, 3) := by decide +kernel
theorem dMo_write_44 : decode cMo_write 44 = .ok (.if_icmp .ge 7, 3) := by decide +kernel
theorem dMo_write_47 : decode cMo_write 47 = .ok (.iload_n 2, 1) := by decide +kernel
theorem dMo_write_48 : decode cMo_write 48 = .ok (.goto 4, 3) := by decide +kernel
theorem dMo_write_51 : decode cMo_write 51 = .ok (.iload_n 1, 1) := by decide +kernel
theorem dMo_write_52 : decode cMo_write 52 = .ok (.istore_n 1, 1) := by decide +kernel
theorem dMo_write_53 : decode cMo_write 53 = .ok (.iinc 2 1, 3) := by decide +kernel
theorem dMo_write_56 : decode cMo_write 56 = .ok (.goto (-27), 3) := by decide +kernel
theorem dMo_write_59 : decode cMo_write 59 = .ok (.aload_n 0, 1) := by decide +kernel
theorem dMo_write_60 : decode cMo_write 60 = .ok (.iload_n 1, 1) := by decide +kernel
theorem dMo_write_61 : decode cMo_write 61 = .ok (.invokevirtual 100, 3) := by decide +kernel
theorem dMo_write_64 : decode cMo_write 64 = .ok (.ireturn, 1) := by decide +kernel
theorem dMo_writeIn_0 : decode cMo_writeIn 0 = .ok (.aload_n 0, 1) := by decide +kernel
theorem dMo_writeIn_1 : decode cMo_writeIn 1 = .ok (.iconst 0, 1) := by decide +kernel
theorem dMo_writeIn_2 : decode cMo_writeIn 2 = .ok (.putfield 77, 3) := by decide +kernel
theorem dMo_writeIn_5 : decode cMo_writeIn 5 = .ok (.aload_n 0, 1) := by decide +kernel
theorem dMo_writeIn_6 : decode cMo_writeIn 6 = .ok (.iconst 0, 1) := by decide +kernel
theorem dMo_writeIn_7 : decode cMo_writeIn 7 = .ok (.putfield 74, 3) := by decide +kernel
theorem dMo_writeIn_10 : decode cMo_writeIn 10 = .ok (.aload_n 0, 1) := by decide +kernel
theorem dMo_writeIn_11 : decode cMo_writeIn 11 = .ok (.iload_n 1, 1) := by decide +kernel
theorem dMo_writeIn_12 : decode cMo_writeIn 12 = .ok (.putfield 13, 3) := by decide +kernel
theorem dMo_writeIn_15 : decode cMo_writeIn 15 = .ok (.aload_n 0, 1) := by decide +kernel
theorem dMo_writeIn_16 : decode cMo_writeIn 16 = .ok (.aload_n 0, 1) := by decide +kernel
theorem dMo_writeIn_17 : decode cMo_writeIn 17 = .ok (.getfield 30, 3) := by decide +kernel
theorem dMo_writeIn_20 : decode cMo_writeIn 20 = .ok (.putfield 88, 3) := by decide +kernel
theorem dMo_writeIn_23 : decode cMo_writeIn 23 = .ok (.iconst 0, 1) := by decide +kernel
theorem dMo_writeIn_24 : decode cMo_writeIn 24 = .ok (.istore_n 2, 1) := by decide +kernel
theorem dMo_writeIn_25 : decode cMo_writeIn 25 = .ok (.iload_n 2, 1) := by decide +kernel
theorem dMo_writeIn_26 : decode cMo_writeIn 26 = .ok (.aload_n 0, 1) := by decide +kernel
theorem dMo_writeIn_27 : decode cMo_writeIn 27 = .ok (.getfield 30, 3) := by decide +kernel
theorem dMo_writeIn_30 : decode cMo_writeIn 30 = .ok (.if_icmp .ge 21, 3) := by decide +kernel
theorem dMo_writeIn_33 : decode cMo_writeIn 33 = .ok (.aload_n 0, 1) := by decide +kernel
theorem dMo_writeIn_34 : decode cMo_writeIn 34 = .ok (.getfield 17, 3) := by decide +kernel
theorem dMo_writeIn_37 : decode cMo_writeIn 37 = .ok (.iload_n 2, 1) := by decide +kernel
theorem dMo_writeIn_38 : decode cMo_writeIn 38 = .ok (.aload_n 0, 1) := by decide +kernel
theorem dMo_writeIn_39 : decode cMo_writeIn 39 = .ok (.getfield 7, 3) := by decide +kernel
theorem dMo_writeIn_42 : decode cMo_writeIn 42 = .ok (.iload_n 2, 1) := by decide +kernel
theorem dMo_writeIn_43 : decode cMo_writeIn 43 = .ok (.laload, 1) := by decide +kernel
theorem dMo_writeIn_44 : decode cMo_writeIn 44 = .ok (.lastore, 1) := by decide +kernel
theorem dMo_writeIn_45 : decode cMo_writeIn 45 = .ok (.iinc 2 1, 3) := by decide +kernel
theorem dMo_writeIn_48 : decode cMo_writeIn 48 = .ok (.goto (-23), 3) := by decide +kernel
theorem dMo_writeIn_51 : decode cMo_writeIn 51 = .ok (.iload_n 1, 1) := by decide +kernel
theorem dMo_writeIn_52 : decode cMo_writeIn 52 = .ok (.ifCond .ne 34, 3) := by decide +kernel
theorem dMo_writeIn_55 : decode cMo_writeIn 55 = .ok (.iconst 0, 1) := by decide +kernel
theorem dMo_writeIn_56 : decode cMo_writeIn 56 = .ok (.istore_n 2, 1) := by decide +kernel
theorem dMo_writeIn_57 : decode cMo_writeIn 57 = .ok (.iload_n 2, 1) := by decide +kernel
theorem dMo_writeIn_58 : decode cMo_writeIn 58 = .ok (.aload_n 0, 1) := by decide +kernel
theorem dMo_writeIn_59 : decode cMo_writeIn 59 = .ok (.getfield 30, 3) := by decide +kernel
theorem dMo_writeIn_62 : decode cMo_writeIn 62 = .ok (.if_icmp .ge 21, 3) := by decide +kernel
theorem dMo_writeIn_65 : decode cMo_writeIn 65 = .ok (.aload_n 0, 1) := by decide +kernel
theorem dMo_writeIn_66 : decode cMo_writeIn 66 = .ok (.aload_n 0, 1) := by decide +kernel
theorem dMo_writeIn_67 : decode cMo_writeIn 67 = .ok (.getfield 7, 3) := by decide +kernel
theorem dMo_writeIn_70 : decode cMo_writeIn 70 = .ok (.iload_n 2, 1) := by decide +kernel
theorem dMo_writeIn_71 : decode cMo_writeIn 71 = .ok (.laload, 1) := by decide +kernel
theorem dMo_writeIn_72 : decode cMo_writeIn 72 = .ok (.bipush 64, 2) := by decide +kernel
theorem dMo_writeIn_74 : decode cMo_writeIn 74 = .ok (.invokevirtual 84, 3) := by decide +kernel
theorem dMo_writeIn_77 : decode cMo_writeIn 77 = .ok (.iinc 2 1, 3) := by decide +kernel
theorem dMo_writeIn_80 : decode cMo_writeIn 80 = .ok (.goto (-23), 3) := by decide +kernel
theorem dMo_writeIn_83 : decode cMo_writeIn 83 = .ok (.goto 104, 3) := by decide +kernel
theorem dMo_writeIn_86 : decode cMo_writeIn 86 = .ok (.iload_n 1, 1) := by decide +kernel
theorem dMo_writeIn_87 : decode cMo_writeIn 87 = .ok (.iconst 1, 1) := by decide +kernel
theorem dMo_writeIn_88 : decode cMo_writeIn 88 = .ok (.if_icmp .ne 71, 3) := by decide +kernel
theorem dMo_writeIn_91 : decode cMo_writeIn 91 = .ok (.aload_n 0, 1) := by decide +kernel
theorem dMo_writeIn_92 : decode cMo_writeIn 92 = .ok (.invokevirtual 48, 3) := by decide +kernel
theorem dMo_writeIn_95 : decode cMo_writeIn 95 = .ok (.lstore_n 2, 1) := by decide +kernel
theorem dMo_writeIn_96 : decode cMo_writeIn 96 = .ok (.aload_n 0, 1) := by decide +kernel
theorem dMo_writeIn_97 : decode cMo_writeIn 97 = .ok (.invokevirtual 44, 3) := by decide +kernel
theorem dMo_writeIn_100 : decode cMo_writeIn 100 = .ok (.lload_n 2, 1) := by decide +kernel
theorem dMo_writeIn_101 : decode cMo_writeIn 101 = .ok (.lsub, 1) := by decide +kernel
theorem dMo_writeIn_102 : decode cMo_writeIn 102 = .ok (.invokestatic 51, 3) := by decide +kernel
theorem dMo_writeIn_105 : decode cMo_writeIn 105 = .ok (.istore 4, 2) := by decide +kernel
theorem dMo_writeIn_107 : decode cMo_writeIn 107 = .ok (.aload_n 0, 1) := by decide +kernel
theorem dMo_writeIn_108 : decode cMo_writeIn 108 = .ok (.lload_n 2, 1) := by decide +kernel
theorem dMo_writeIn_109 : decode cMo_writeIn 109 = .ok (.bipush 64, 2) := by decide +kernel
theorem dMo_writeIn_111 : decode cMo_writeIn 111 = .ok (.invokevirtual 84, 3) := by decide +kernel
theorem dMo_writeIn_114 : decode cMo_writeIn 114 = .ok (.aload_n 0, 1) := by decide +kernel
theorem dMo_writeIn_115 : decode cMo_writeIn 115 = .ok (.iload 4, 2) := by decide +kernel
theorem dMo_writeIn_117 : decode cMo_writeIn 117 = .ok (.i2l, 1) := by decide +kernel
theorem dMo_writeIn_118 : decode cMo_writeIn 118 = .ok (.bipush 8, 2) := by decide +kernel
theorem dMo_writeIn_120 : decode cMo_writeIn 120 = .ok (.invokevirtual 84, 3) := by decide +kernel
theorem dMo_writeIn_123 : decode cMo_writeIn 123 = .ok (.iconst 0, 1) := by decide +kernel
theorem dMo_writeIn_124 : decode cMo_writeIn 124 = .ok (.istore 5, 2) := by decide +kernel
theorem dMo_writeIn_126 : decode cMo_writeIn 126 = .ok (.iload 5, 2) := by decide +kernel
theorem dMo_writeIn_128 : decode cMo_writeIn 128 = .ok (.aload_n 0, 1) := by decide +kernel
theorem dMo_writeIn_129 : decode cMo_writeIn 129 = .ok (.getfield 30, 3) := by decide +kernel
theorem dMo_writeIn_132 : decode cMo_writeIn 132 = .ok (.if_icmp .ge 24, 3) := by decide +kernel
theorem dMo_writeIn_135 : decode cMo_writeIn 135 = .ok (.aload_n 0, 1) := by decide +kernel
theorem dMo_writeIn_136 : decode cMo_writeIn 136 = .ok (.aload_n 0, 1) := by decide +kernel
theorem dMo_writeIn_137 : decode cMo_writeIn 137 = .ok (.getfield 7, 3) := by decide +kernel
theorem dMo_writeIn_140 : decode cMo_writeIn 140 = .ok (.iload 5, 2) := by decide +kernel
theorem dMo_writeIn_142 : decode cMo_writeIn 142 = .ok (.laload, 1) := by decide +kernel
theorem dMo_writeIn_143 : decode cMo_writeIn 143 = .ok (.lload_n 2, 1) := by decide +kernel
theorem dMo_writeIn_144 : decode cMo_writeIn 144 = .ok (.lsub, 1) := by decide +kernel
theorem dMo_writeIn_145 : decode cMo_writeIn 145 = .ok (.iload 4, 2) := by decide +kernel
theorem dMo_writeIn_147 : decode cMo_writeIn 147 = .ok (.invokevirtual 84, 3) := by decide +kernel
theorem dMo_writeIn_150 : decode cMo_writeIn 150 = .ok (.iinc 5 1, 3) := by decide +kernel
theorem dMo_writeIn_153 : decode cMo_writeIn 153 = .ok (.goto (-27), 3) := by decide +kernel
theorem dMo_writeIn_156 : decode cMo_writeIn 156 = .ok (.goto 31, 3) := by decide +kernel
theorem dMo_writeIn_159 : decode cMo_writeIn 159 = .ok (.iload_n 1, 1) := by decide +kernel
theorem dMo_writeIn_160 : decode cMo_writeIn 160 = .ok (.iconst 2, 1) := by decide +kernel
end
section
theorem dMo_writeIn_161 : decode cMo_writeIn 161 = .ok (.if_icmp .ne 10, 3) := by decide +kernel
theorem dMo_writeIn_164 : decode cMo_writeIn 164 = .ok (.aload_n 0, 1) := by decide +kernel
theorem dMo_writeIn_165 : decode cMo_writeIn 165 = .ok (.invokevirtual 91, 3) := by decide +kernel
theorem dMo_writeIn_168 : decode cMo_writeIn 168 = .ok (.goto 19, 3) := by decide +kernel
theorem dMo_writeIn_171 : decode cMo_writeIn 171 = .ok (.iload_n 1, 1) := by decide +kernel
theorem dMo_writeIn_172 : decode cMo_writeIn 172 = .ok (.iconst 3, 1) := by decide +kernel
theorem dMo_writeIn_173 : decode cMo_writeIn 173 = .ok (.if_icmp .ne 10, 3) := by decide +kernel
theorem dMo_writeIn_176 : decode cMo_writeIn 176 = .ok (.aload_n 0, 1) := by decide +kernel
theorem dMo_writeIn_177 : decode cMo_writeIn 177 = .ok (.invokevirtual 94, 3) := by decide +kernel
theorem dMo_writeIn_180 : decode cMo_writeIn 180 = .ok (.goto 7, 3) := by decide +kernel
theorem dMo_writeIn_183 : decode cMo_writeIn 183 = .ok (.aload_n 0, 1) := by decide +kernel
theorem dMo_writeIn_184 : decode cMo_writeIn 184 = .ok (.invokevirtual 97, 3) := by decide +kernel
theorem dMo_writeIn_187 : decode cMo_writeIn 187 = .ok (.aload_n 0, 1) := by decide +kernel
theorem dMo_writeIn_188 : decode cMo_writeIn 188 = .ok (.getfield 77, 3) := by decide +kernel
theorem dMo_writeIn_191 : decode cMo_writeIn 191 = .ok (.ireturn, 1) := by decide +kernel
theorem dMo_number_0 : decode cMo_number 0 = .ok (.iload_n 3, 1) := by decide +kernel
theorem dMo_number_1 : decode cMo_number 1 = .ok (.iconst 1, 1) := by decide +kernel
theorem dMo_number_2 : decode cMo_number 2 = .ok (.isub, 1) := by decide +kernel
theorem dMo_number_3 : decode cMo_number 3 = .ok (.istore 4, 2) := by decide +kernel
theorem dMo_number_5 : decode cMo_number 5 = .ok (.iload 4, 2) := by decide +kernel
theorem dMo_number_7 : decode cMo_number 7 = .ok (.ifCond .lt 20, 3) := by decide +kernel
theorem dMo_number_10 : decode cMo_number 10 = .ok (.aload_n 0, 1) := by decide +kernel
theorem dMo_number_11 : decode cMo_number 11 = .ok (.lload_n 1, 1) := by decide +kernel
theorem dMo_number_12 : decode cMo_number 12 = .ok (.iload 4, 2) := by decide +kernel
theorem dMo_number_14 : decode cMo_number 14 = .ok (.lshr, 1) := by decide +kernel
theorem dMo_number_15 : decode cMo_number 15 = .ok (.lconst 1, 1) := by decide +kernel
theorem dMo_number_16 : decode cMo_number 16 = .ok (.land, 1) := by decide +kernel
theorem dMo_number_17 : decode cMo_number 17 = .ok (.l2i, 1) := by decide +kernel
theorem dMo_number_18 : decode cMo_number 18 = .ok (.invokevirtual 80, 3) := by decide +kernel
theorem dMo_number_21 : decode cMo_number 21 = .ok (.iinc 4 (-1), 3) := by decide +kernel
theorem dMo_number_24 : decode cMo_number 24 = .ok (.goto (-19), 3) := by decide +kernel
theorem dMo_number_27 : decode cMo_number 27 = .ok (.return_, 1) := by decide +kernel
theorem dMo_bit_0 : decode cMo_bit 0 = .ok (.aload_n 0, 1) := by decide +kernel
theorem dMo_bit_1 : decode cMo_bit 1 = .ok (.getfield 74, 3) := by decide +kernel
theorem dMo_bit_4 : decode cMo_bit 4 = .ok (.ifCond .ne 23, 3) := by decide +kernel
theorem dMo_bit_7 : decode cMo_bit 7 = .ok (.aload_n 0, 1) := by decide +kernel
theorem dMo_bit_8 : decode cMo_bit 8 = .ok (.getfield 20, 3) := by decide +kernel
theorem dMo_bit_11 : decode cMo_bit 11 = .ok (.aload_n 0, 1) := by decide +kernel
theorem dMo_bit_12 : decode cMo_bit 12 = .ok (.getfield 77, 3) := by decide +kernel
theorem dMo_bit_15 : decode cMo_bit 15 = .ok (.iconst 0, 1) := by decide +kernel
theorem dMo_bit_16 : decode cMo_bit 16 = .ok (.iastore, 1) := by decide +kernel
theorem dMo_bit_17 : decode cMo_bit 17 = .ok (.aload_n 0, 1) := by decide +kernel
theorem dMo_bit_18 : decode cMo_bit 18 = .ok (.dup, 1) := by decide +kernel
theorem dMo_bit_19 : decode cMo_bit 19 = .ok (.getfield 77, 3) := by decide +kernel
theorem dMo_bit_22 : decode cMo_bit 22 = .ok (.iconst 1, 1) := by decide +kernel
theorem dMo_bit_23 : decode cMo_bit 23 = .ok (.iadd, 1) := by decide +kernel
theorem dMo_bit_24 : decode cMo_bit 24 = .ok (.putfield 77, 3) := by decide +kernel
theorem dMo_bit_27 : decode cMo_bit 27 = .ok (.aload_n 0, 1) := by decide +kernel
theorem dMo_bit_28 : decode cMo_bit 28 = .ok (.getfield 20, 3) := by decide +kernel
theorem dMo_bit_31 : decode cMo_bit 31 = .ok (.aload_n 0, 1) := by decide +kernel
theorem dMo_bit_32 : decode cMo_bit 32 = .ok (.getfield 77, 3) := by decide +kernel
theorem dMo_bit_35 : decode cMo_bit 35 = .ok (.iconst 1, 1) := by decide +kernel
theorem dMo_bit_36 : decode cMo_bit 36 = .ok (.isub, 1) := by decide +kernel
theorem dMo_bit_37 : decode cMo_bit 37 = .ok (.dup2, 1) := by decide +kernel
theorem dMo_bit_38 : decode cMo_bit 38 = .ok (.iaload, 1) := by decide +kernel
theorem dMo_bit_39 : decode cMo_bit 39 = .ok (.iload_n 1, 1) := by decide +kernel
theorem dMo_bit_40 : decode cMo_bit 40 = .ok (.bipush 7, 2) := by decide +kernel
theorem dMo_bit_42 : decode cMo_bit 42 = .ok (.aload_n 0, 1) := by decide +kernel
theorem dMo_bit_43 : decode cMo_bit 43 = .ok (.getfield 74, 3) := by decide +kernel
theorem dMo_bit_46 : decode cMo_bit 46 = .ok (.isub, 1) := by decide +kernel
theorem dMo_bit_47 : decode cMo_bit 47 = .ok (.ishl, 1) := by decide +kernel
theorem dMo_bit_48 : decode cMo_bit 48 = .ok (.iadd, 1) := by decide +kernel
theorem dMo_bit_49 : decode cMo_bit 49 = .ok (.iastore, 1) := by decide +kernel
theorem dMo_bit_50 : decode cMo_bit 50 = .ok (.aload_n 0, 1) := by decide +kernel
theorem dMo_bit_51 : decode cMo_bit 51 = .ok (.aload_n 0, 1) := by decide +kernel
theorem dMo_bit_52 : decode cMo_bit 52 = .ok (.getfield 74, 3) := by decide +kernel
theorem dMo_bit_55 : decode cMo_bit 55 = .ok (.iconst 1, 1) := by decide +kernel
theorem dMo_bit_56 : decode cMo_bit 56 = .ok (.iadd, 1) := by decide +kernel
theorem dMo_bit_57 : decode cMo_bit 57 = .ok (.bipush 8, 2) := by decide +kernel
theorem dMo_bit_59 : decode cMo_bit 59 = .ok (.irem, 1) := by decide +kernel
theorem dMo_bit_60 : decode cMo_bit 60 = .ok (.putfield 74, 3) := by decide +kernel
theorem dMo_bit_63 : decode cMo_bit 63 = .ok (.return_, 1) := by decide +kernel
theorem dMo_writeList_0 : decode cMo_writeList 0 = .ok (.aload_n 0, 1) := by decide +kernel
theorem dMo_writeList_1 : decode cMo_writeList 1 = .ok (.invokevirtual 58, 3) := by decide +kernel
theorem dMo_writeList_4 : decode cMo_writeList 4 = .ok (.aload_n 0, 1) := by decide +kernel
theorem dMo_writeList_5 : decode cMo_writeList 5 = .ok (.aload_n 0, 1) := by decide +kernel
theorem dMo_writeList_6 : decode cMo_writeList 6 = .ok (.getfield 37, 3) := by decide +kernel
theorem dMo_writeList_9 : decode cMo_writeList 9 = .ok (.i2l, 1) := by decide +kernel
theorem dMo_writeList_10 : decode cMo_writeList 10 = .ok (.bipush 16, 2) := by decide +kernel
theorem dMo_writeList_12 : decode cMo_writeList 12 = .ok (.invokevirtual 84, 3) := by decide +kernel
theorem dMo_writeList_15 : decode cMo_writeList 15 = .ok (.iconst 0, 1) := by decide +kernel
theorem dMo_writeList_16 : decode cMo_writeList 16 = .ok (.istore_n 1, 1) := by decide +kernel
theorem dMo_writeList_17 : decode cMo_writeList 17 = .ok (.iload_n 1, 1) := by decide +kernel
theorem dMo_writeList_18 : decode cMo_writeList 18 = .ok (.aload_n 0, 1) := by decide +kernel
theorem dMo_writeList_19 : decode cMo_writeList 19 = .ok (.getfield 37, 3) := by decide +kernel
theorem dMo_writeList_22 : decode cMo_writeList 22 = .ok (.if_icmp .ge 21, 3) := by decide +kernel
theorem dMo_writeList_25 : decode cMo_writeList 25 = .ok (.aload_n 0, 1) := by decide +kernel
theorem dMo_writeList_26 : decode cMo_writeList 26 = .ok (.aload_n 0, 1) := by decide +kernel
theorem dMo_writeList_27 : decode cMo_writeList 27 = .ok (.getfield 24, 3) := by decide +kernel
theorem dMo_writeList_30 : decode cMo_writeList 30 = .ok (.iload_n 1, 1) := by decide +kernel
theorem dMo_writeList_31 : decode cMo_writeList 31 = .ok (.laload, 1) := by decide +kernel
theorem dMo_writeList_32 : decode cMo_writeList 32 = .ok (.bipush 64, 2) := by decide +kernel
theorem dMo_writeList_34 : decode cMo_writeList 34 = .ok (.invokevirtual 84, 3) := by decide +kernel
theorem dMo_writeList_37 : decode cMo_writeList 37 = .ok (.iinc 1 1, 3) := by decide +kernel
theorem dMo_writeList_40 : decode cMo_writeList 40 = .ok (.goto (-23), 3) := by decide +kernel
theorem dMo_writeList_43 : decode cMo_writeList 43 = .ok (.aload_n 0, 1) := by decide +kernel
theorem dMo_writeList_44 : decode cMo_writeList 44 = .ok (.getfield 37, 3) := by decide +kernel
theorem dMo_writeList_47 : decode cMo_writeList 47 = .ok (.iconst 1, 1) := by decide +kernel
theorem dMo_writeList_48 : decode cMo_writeList 48 = .ok (.isub, 1) := by decide +kernel
theorem dMo_writeList_49 : decode cMo_writeList 49 = .ok (.i2l, 1) := by decide +kernel
theorem dMo_writeList_50 : decode cMo_writeList 50 = .ok (.invokestatic 51, 3) := by decide +kernel
theorem dMo_writeList_53 : decode cMo_writeList 53 = .ok (.istore_n 1, 1) := by decide +kernel
theorem dMo_writeList_54 : decode cMo_writeList 54 = .ok (.iconst 0, 1) := by decide +kernel
theorem dMo_writeList_55 : decode cMo_writeList 55 = .ok (.istore_n 2, 1) := by decide +kernel
theorem dMo_writeList_56 : decode cMo_writeList 56 = .ok (.iload_n 2, 1) := by decide +kernel
theorem dMo_writeList_57 : decode cMo_writeList 57 = .ok (.aload_n 0, 1) := by decide +kernel
theorem dMo_writeList_58 : decode cMo_writeList 58 = .ok (.getfield 30, 3) := by decide +kernel
theorem dMo_writeList_61 : decode cMo_writeList 61 = .ok (.if_icmp .ge 25, 3) := by decide +kernel
theorem dMo_writeList_64 : decode cMo_writeList 64 = .ok (.aload_n 0, 1) := by decide +kernel
theorem dMo_writeList_65 : decode cMo_writeList 65 = .ok (.aload_n 0, 1) := by decide +kernel
theorem dMo_writeList_66 : decode cMo_writeList 66 = .ok (.aload_n 0, 1) := by decide +kernel
theorem dMo_writeList_67 : decode cMo_writeList 67 = .ok (.getfield 7, 3) := by decide +kernel
theorem dMo_writeList_70 : decode cMo_writeList 70 = .ok (.iload_n 2, 1) := by decide +kernel
theorem dMo_writeList_71 : decode cMo_writeList 71 = .ok (.laload, 1) := by decide +kernel
theorem dMo_writeList_72 : decode cMo_writeList 72 = .ok (.invokevirtual 40, 3) := by decide +kernel
theorem dMo_writeList_75 : decode cMo_writeList 75 = .ok (.i2l, 1) := by decide +kernel
theorem dMo_writeList_76 : decode cMo_writeList 76 = .ok (.iload_n 1, 1) := by decide +kernel
theorem dMo_writeList_77 : decode cMo_writeList 77 = .ok (.invokevirtual 84, 3) := by decide +kernel
theorem dMo_writeList_80 : decode cMo_writeList 80 = .ok (.iinc 2 1, 3) := by decide +kernel
theorem dMo_writeList_83 : decode cMo_writeList 83 = .ok (.goto (-27), 3) := by decide +kernel
theorem dMo_writeList_86 : decode cMo_writeList 86 = .ok (.return_, 1) := by decide +kernel
theorem dMo_writeRuns_0 : decode cMo_writeRuns 0 = .ok (.aload_n 0, 1) := by decide +kernel
theorem dMo_writeRuns_1 : decode cMo_writeRuns 1 = .ok (.aload_n 0, 1) := by decide +kernel
theorem dMo_writeRuns_2 : decode cMo_writeRuns 2 = .ok (.invokevirtual 61, 3) := by decide +kernel
theorem dMo_writeRuns_5 : decode cMo_writeRuns 5 = .ok (.i2l, 1) := by decide +kernel
theorem dMo_writeRuns_6 : decode cMo_writeRuns 6 = .ok (.bipush 16, 2) := by decide +kernel
theorem dMo_writeRuns_8 : decode cMo_writeRuns 8 = .ok (.invokevirtual 84, 3) := by decide +kernel
theorem dMo_writeRuns_11 : decode cMo_writeRuns 11 = .ok (.iconst 0, 1) := by decide +kernel
theorem dMo_writeRuns_12 : decode cMo_writeRuns 12 = .ok (.istore_n 1, 1) := by decide +kernel
theorem dMo_writeRuns_13 : decode cMo_writeRuns 13 = .ok (.iconst 1, 1) := by decide +kernel
theorem dMo_writeRuns_14 : decode cMo_writeRuns 14 = .ok (.istore_n 2, 1) := by decide +kernel
theorem dMo_writeRuns_15 : decode cMo_writeRuns 15 = .ok (.iload_n 2, 1) := by decide +kernel
theorem dMo_writeRuns_16 : decode cMo_writeRuns 16 = .ok (.aload_n 0, 1) := by decide +kernel
theorem dMo_writeRuns_17 : decode cMo_writeRuns 17 = .ok (.getfield 30, 3) := by decide +kernel
theorem dMo_writeRuns_20 : decode cMo_writeRuns 20 = .ok (.if_icmp .gt 57, 3) := by decide +kernel
theorem dMo_writeRuns_23 : decode cMo_writeRuns 23 = .ok (.iload_n 2, 1) := by decide +kernel
theorem dMo_writeRuns_24 : decode cMo_writeRuns 24 = .ok (.aload_n 0, 1) := by decide +kernel
theorem dMo_writeRuns_25 : decode cMo_writeRuns 25 = .ok (.getfield 30, 3) := by decide +kernel
theorem dMo_writeRuns_28 : decode cMo_writeRuns 28 = .ok (.if_icmp .eq 19, 3) := by decide +kernel
theorem dMo_writeRuns_31 : decode cMo_writeRuns 31 = .ok (.aload_n 0, 1) := by decide +kernel
theorem dMo_writeRuns_32 : decode cMo_writeRuns 32 = .ok (.getfield 7, 3) := by decide +kernel
theorem dMo_writeRuns_35 : decode cMo_writeRuns 35 = .ok (.iload_n 2, 1) := by decide +kernel
theorem dMo_writeRuns_36 : decode cMo_writeRuns 36 = .ok (.laload, 1) := by decide +kernel
theorem dMo_writeRuns_37 : decode cMo_writeRuns 37 = .ok (.aload_n 0, 1) := by decide +kernel
theorem dMo_writeRuns_38 : decode cMo_writeRuns 38 = .ok (.getfield 7, 3) := by decide +kernel
theorem dMo_writeRuns_41 : decode cMo_writeRuns 41 = .ok (.iload_n 1, 1) := by decide +kernel
theorem dMo_writeRuns_42 : decode cMo_writeRuns 42 = .ok (.laload, 1) := by decide +kernel
theorem dMo_writeRuns_43 : decode cMo_writeRuns 43 = .ok (.lcmp, 1) := by decide +kernel
theorem dMo_writeRuns_44 : decode cMo_writeRuns 44 = .ok (.ifCond .eq 27, 3) := by decide +kernel
theorem dMo_writeRuns_47 : decode cMo_writeRuns 47 = .ok (.aload_n 0, 1) := by decide +kernel
theorem dMo_writeRuns_48 : decode cMo_writeRuns 48 = .ok (.aload_n 0, 1) := by decide +kernel
theorem dMo_writeRuns_49 : decode cMo_writeRuns 49 = .ok (.getfield 7, 3) := by decide +kernel
theorem dMo_writeRuns_52 : decode cMo_writeRuns 52 = .ok (.iload_n 1, 1) := by decide +kernel
theorem dMo_writeRuns_53 : decode cMo_writeRuns 53 = .ok (.laload, 1) := by decide +kernel
theorem dMo_writeRuns_54 : decode cMo_writeRuns 54 = .ok (.bipush 64, 2) := by decide +kernel
theorem dMo_writeRuns_56 : decode cMo_writeRuns 56 = .ok (.invokevirtual 84, 3) := by decide +kernel
theorem dMo_writeRuns_59 : decode cMo_writeRuns 59 = .ok (.aload_n 0, 1) := by decide +kernel
theorem dMo_writeRuns_60 : decode cMo_writeRuns 60 = .ok (.iload_n 2, 1) := by decide +kernel
theorem dMo_writeRuns_61 : decode cMo_writeRuns 61 = .ok (.iload_n 1, 1) := by decide +kernel
theorem dMo_writeRuns_62 : decode cMo_writeRuns 62 = .ok (.isub, 1) := by decide +kernel
theorem dMo_writeRuns_63 : decode cMo_writeRuns 63 = .ok (.i2l, 1) := by decide +kernel
theorem dMo_writeRuns_64 : decode cMo_writeRuns 64 = .ok (.bipush 16, 2) := by decide +kernel
theorem dMo_writeRuns_66 : decode cMo_writeRuns 66 = .ok (.invokevirtual 84, 3) := by decide +kernel
theorem dMo_writeRuns_69 : decode cMo_writeRuns 69 = .ok (.iload_n 2, 1) := by decide +kernel
theorem dMo_writeRuns_70 : decode cMo_writeRuns 70 = .ok (.istore_n 1, 1) := by decide +kernel
theorem dMo_writeRuns_71 : decode cMo_writeRuns 71 = .ok (.iinc 2 1, 3) := by decide +kernel
theorem dMo_writeRuns_74 : decode cMo_writeRuns 74 = .ok (.goto (-59), 3) := by decide +kernel
theorem dMo_writeRuns_77 : decode cMo_writeRuns 77 = .ok (.return_, 1) := by decide +kernel
theorem dMo_writeSteps_0 : decode cMo_writeSteps 0 = .ok (.aload_n 0, 1) := by decide +kernel
theorem dMo_writeSteps_1 : decode cMo_writeSteps 1 = .ok (.invokevirtual 68, 3) := by decide +kernel
theorem dMo_writeSteps_4 : decode cMo_writeSteps 4 = .ok (.lstore_n 1, 1) := by decide +kernel
theorem dMo_writeSteps_5 : decode cMo_writeSteps 5 = .ok (.aload_n 0, 1) := by decide +kernel
theorem dMo_writeSteps_6 : decode cMo_writeSteps 6 = .ok (.invokevirtual 65, 3) := by decide +kernel
theorem dMo_writeSteps_9 : decode cMo_writeSteps 9 = .ok (.lload_n 1, 1) := by decide +kernel
theorem dMo_writeSteps_10 : decode cMo_writeSteps 10 = .ok (.lsub, 1) := by decide +kernel
theorem dMo_writeSteps_11 : decode cMo_writeSteps 11 = .ok (.invokestatic 51, 3) := by decide +kernel
theorem dMo_writeSteps_14 : decode cMo_writeSteps 14 = .ok (.istore_n 3, 1) := by decide +kernel
theorem dMo_writeSteps_15 : decode cMo_writeSteps 15 = .ok (.aload_n 0, 1) := by decide +kernel
theorem dMo_writeSteps_16 : decode cMo_writeSteps 16 = .ok (.aload_n 0, 1) := by decide +kernel
theorem dMo_writeSteps_17 : decode cMo_writeSteps 17 = .ok (.getfield 7, 3) := by decide +kernel
theorem dMo_writeSteps_20 : decode cMo_writeSteps 20 = .ok (.iconst 0, 1) := by decide +kernel
theorem dMo_writeSteps_21 : decode cMo_writeSteps 21 = .ok (.laload, 1) := by decide +kernel
theorem dMo_writeSteps_22 : decode cMo_writeSteps 22 = .ok (.bipush 64, 2) := by decide +kernel
theorem dMo_writeSteps_24 : decode cMo_writeSteps 24 = .ok (.invokevirtual 84, 3) := by decide +kernel
theorem dMo_writeSteps_27 : decode cMo_writeSteps 27 = .ok (.aload_n 0, 1) := by decide +kernel
theorem dMo_writeSteps_28 : decode cMo_writeSteps 28 = .ok (.lload_n 1, 1) := by decide +kernel
theorem dMo_writeSteps_29 : decode cMo_writeSteps 29 = .ok (.bipush 64, 2) := by decide +kernel
theorem dMo_writeSteps_31 : decode cMo_writeSteps 31 = .ok (.invokevirtual 84, 3) := by decide +kernel
theorem dMo_writeSteps_34 : decode cMo_writeSteps 34 = .ok (.aload_n 0, 1) := by decide +kernel
theorem dMo_writeSteps_35 : decode cMo_writeSteps 35 = .ok (.iload_n 3, 1) := by decide +kernel
theorem dMo_writeSteps_36 : decode cMo_writeSteps 36 = .ok (.i2l, 1) := by decide +kernel
theorem dMo_writeSteps_37 : decode cMo_writeSteps 37 = .ok (.bipush 8, 2) := by decide +kernel
theorem dMo_writeSteps_39 : decode cMo_writeSteps 39 = .ok (.invokevirtual 84, 3) := by decide +kernel
theorem dMo_writeSteps_42 : decode cMo_writeSteps 42 = .ok (.iconst 1, 1) := by decide +kernel
theorem dMo_writeSteps_43 : decode cMo_writeSteps 43 = .ok (.istore 4, 2) := by decide +kernel
theorem dMo_writeSteps_45 : decode cMo_writeSteps 45 = .ok (.iload 4, 2) := by decide +kernel
theorem dMo_writeSteps_47 : decode cMo_writeSteps 47 = .ok (.aload_n 0, 1) := by decide +kernel
theorem dMo_writeSteps_48 : decode cMo_writeSteps 48 = .ok (.getfield 30, 3) := by decide +kernel
theorem dMo_writeSteps_51 : decode cMo_writeSteps 51 = .ok (.if_icmp .ge 22, 3) := by decide +kernel
theorem dMo_writeSteps_54 : decode cMo_writeSteps 54 = .ok (.aload_n 0, 1) := by decide +kernel
theorem dMo_writeSteps_55 : decode cMo_writeSteps 55 = .ok (.aload_n 0, 1) := by decide +kernel
theorem dMo_writeSteps_56 : decode cMo_writeSteps 56 = .ok (.iload 4, 2) := by decide +kernel
theorem dMo_writeSteps_58 : decode cMo_writeSteps 58 = .ok (.invokevirtual 33, 3) := by decide +kernel
theorem dMo_writeSteps_61 : decode cMo_writeSteps 61 = .ok (.lload_n 1, 1) := by decide +kernel
theorem dMo_writeSteps_62 : decode cMo_writeSteps 62 = .ok (.lsub, 1) := by decide +kernel
theorem dMo_writeSteps_63 : decode cMo_writeSteps 63 = .ok (.iload_n 3, 1) := by decide +kernel
theorem dMo_writeSteps_64 : decode cMo_writeSteps 64 = .ok (.invokevirtual 84, 3) := by decide +kernel
theorem dMo_writeSteps_67 : decode cMo_writeSteps 67 = .ok (.iinc 4 1, 3) := by decide +kernel
theorem dMo_writeSteps_70 : decode cMo_writeSteps 70 = .ok (.goto (-25), 3) := by decide +kernel
theorem dMo_writeSteps_73 : decode cMo_writeSteps 73 = .ok (.return_, 1) := by decide +kernel
theorem dMo_writeAs_0 : decode cMo_writeAs 0 = .ok (.aload_n 0, 1) := by decide +kernel
theorem dMo_writeAs_1 : decode cMo_writeAs 1 = .ok (.iload_n 1, 1) := by decide +kernel
theorem dMo_writeAs_2 : decode cMo_writeAs 2 = .ok (.ifCond .lt 8, 3) := by decide +kernel
theorem dMo_writeAs_5 : decode cMo_writeAs 5 = .ok (.iload_n 1, 1) := by decide +kernel
theorem dMo_writeAs_6 : decode cMo_writeAs 6 = .ok (.iconst 4, 1) := by decide +kernel
theorem dMo_writeAs_7 : decode cMo_writeAs 7 = .ok (.if_icmp .le 7, 3) := by decide +kernel
theorem dMo_writeAs_10 : decode cMo_writeAs 10 = .ok (.iconst 1, 1) := by decide +kernel
theorem dMo_writeAs_11 : decode cMo_writeAs 11 = .ok (.goto 15, 3) := by decide +kernel
theorem dMo_writeAs_14 : decode cMo_writeAs 14 = .ok (.aload_n 0, 1) := by decide +kernel
theorem dMo_writeAs_15 : decode cMo_writeAs 15 = .ok (.getfield 30, 3) := by decide +kernel
theorem dMo_writeAs_18 : decode cMo_writeAs 18 = .ok (.ifCond .ne 7, 3) := by decide +kernel
theorem dMo_writeAs_21 : decode cMo_writeAs 21 = .ok (.iconst 2, 1) := by decide +kernel
theorem dMo_writeAs_22 : decode cMo_writeAs 22 = .ok (.goto 4, 3) := by decide +kernel
theorem dMo_writeAs_25 : decode cMo_writeAs 25 = .ok (.iconst 0, 1) := by decide +kernel
theorem dMo_writeAs_26 : decode cMo_writeAs 26 = .ok (.putfield 27, 3) := by decide +kernel
theorem dMo_writeAs_29 : decode cMo_writeAs 29 = .ok (.aload_n 0, 1) := by decide +kernel
theorem dMo_writeAs_30 : decode cMo_writeAs 30 = .ok (.getfield 27, 3) := by decide +kernel
theorem dMo_writeAs_33 : decode cMo_writeAs 33 = .ok (.ifCond .le 7, 3) := by decide +kernel
theorem dMo_writeAs_36 : decode cMo_writeAs 36 = .ok (.iconst 0, 1) := by decide +kernel
theorem dMo_writeAs_37 : decode cMo_writeAs 37 = .ok (.goto 8, 3) := by decide +kernel
theorem dMo_writeAs_40 : decode cMo_writeAs 40 = .ok (.aload_n 0, 1) := by decide +kernel
theorem dMo_writeAs_41 : decode cMo_writeAs 41 = .ok (.iload_n 1, 1) := by decide +kernel
theorem dMo_writeAs_42 : decode cMo_writeAs 42 = .ok (.invokevirtual 100, 3) := by decide +kernel
theorem dMo_writeAs_45 : decode cMo_writeAs 45 = .ok (.ireturn, 1) := by decide +kernel
theorem dMo_form_0 : decode cMo_form 0 = .ok (.aload_n 0, 1) := by decide +kernel
theorem dMo_form_1 : decode cMo_form 1 = .ok (.iconst 0, 1) := by decide +kernel
theorem dMo_form_2 : decode cMo_form 2 = .ok (.putfield 27, 3) := by decide +kernel
theorem dMo_form_5 : decode cMo_form 5 = .ok (.aload_n 0, 1) := by decide +kernel
theorem dMo_form_6 : decode cMo_form 6 = .ok (.getfield 13, 3) := by decide +kernel
theorem dMo_form_9 : decode cMo_form 9 = .ok (.ireturn, 1) := by decide +kernel
theorem dMo_size_0 : decode cMo_size 0 = .ok (.aload_n 0, 1) := by decide +kernel
theorem dMo_size_1 : decode cMo_size 1 = .ok (.iconst 0, 1) := by decide +kernel
theorem dMo_size_2 : decode cMo_size 2 = .ok (.putfield 27, 3) := by decide +kernel
theorem dMo_size_5 : decode cMo_size 5 = .ok (.aload_n 0, 1) := by decide +kernel
theorem dMo_size_6 : decode cMo_size 6 = .ok (.getfield 13, 3) := by decide +kernel
theorem dMo_size_9 : decode cMo_size 9 = .ok (.ifCond .ge 7, 3) := by decide +kernel
theorem dMo_size_12 : decode cMo_size 12 = .ok (.iconst 0, 1) := by decide +kernel
theorem dMo_size_13 : decode cMo_size 13 = .ok (.goto 7, 3) := by decide +kernel
theorem dMo_size_16 : decode cMo_size 16 = .ok (.aload_n 0, 1) := by decide +kernel
theorem dMo_size_17 : decode cMo_size 17 = .ok (.getfield 77, 3) := by decide +kernel
theorem dMo_size_20 : decode cMo_size 20 = .ok (.ireturn, 1) := by decide +kernel
theorem dMo_byteAt_0 : decode cMo_byteAt 0 = .ok (.aload_n 0, 1) := by decide +kernel
theorem dMo_byteAt_1 : decode cMo_byteAt 1 = .ok (.aload_n 0, 1) := by decide +kernel
theorem dMo_byteAt_2 : decode cMo_byteAt 2 = .ok (.getfield 13, 3) := by decide +kernel
theorem dMo_byteAt_5 : decode cMo_byteAt 5 = .ok (.ifCond .lt 15, 3) := by decide +kernel
theorem dMo_byteAt_8 : decode cMo_byteAt 8 = .ok (.iload_n 1, 1) := by decide +kernel
theorem dMo_byteAt_9 : decode cMo_byteAt 9 = .ok (.ifCond .lt 11, 3) := by decide +kernel
theorem dMo_byteAt_12 : decode cMo_byteAt 12 = .ok (.iload_n 1, 1) := by decide +kernel
theorem dMo_byteAt_13 : decode cMo_byteAt 13 = .ok (.aload_n 0, 1) := by decide +kernel
theorem dMo_byteAt_14 : decode cMo_byteAt 14 = .ok (.getfield 77, 3) := by decide +kernel
theorem dMo_byteAt_17 : decode cMo_byteAt 17 = .ok (.if_icmp .lt 7, 3) := by decide +kernel
theorem dMo_byteAt_20 : decode cMo_byteAt 20 = .ok (.iconst 1, 1) := by decide +kernel
theorem dMo_byteAt_21 : decode cMo_byteAt 21 = .ok (.goto 4, 3) := by decide +kernel
theorem dMo_byteAt_24 : decode cMo_byteAt 24 = .ok (.iconst 0, 1) := by decide +kernel
theorem dMo_byteAt_25 : decode cMo_byteAt 25 = .ok (.putfield 27, 3) := by decide +kernel
theorem dMo_byteAt_28 : decode cMo_byteAt 28 = .ok (.aload_n 0, 1) := by decide +kernel
theorem dMo_byteAt_29 : decode cMo_byteAt 29 = .ok (.getfield 27, 3) := by decide +kernel
theorem dMo_byteAt_32 : decode cMo_byteAt 32 = .ok (.ifCond .le 7, 3) := by decide +kernel
theorem dMo_byteAt_35 : decode cMo_byteAt 35 = .ok (.iconst 0, 1) := by decide +kernel
theorem dMo_byteAt_36 : decode cMo_byteAt 36 = .ok (.goto 9, 3) := by decide +kernel
theorem dMo_byteAt_39 : decode cMo_byteAt 39 = .ok (.aload_n 0, 1) := by decide +kernel
theorem dMo_byteAt_40 : decode cMo_byteAt 40 = .ok (.getfield 20, 3) := by decide +kernel
theorem dMo_byteAt_43 : decode cMo_byteAt 43 = .ok (.iload_n 1, 1) := by decide +kernel
theorem dMo_byteAt_44 : decode cMo_byteAt 44 = .ok (.iaload, 1) := by decide +kernel
theorem dMo_byteAt_45 : decode cMo_byteAt 45 = .ok (.ireturn, 1) := by decide +kernel
theorem dMo_cell_0 : decode cMo_cell 0 = .ok (.aload_n 0, 1) := by decide +kernel
theorem dMo_cell_1 : decode cMo_cell 1 = .ok (.aload_n 0, 1) := by decide +kernel
theorem dMo_cell_2 : decode cMo_cell 2 = .ok (.getfield 13, 3) := by decide +kernel
theorem dMo_cell_5 : decode cMo_cell 5 = .ok (.ifCond .lt 15, 3) := by decide +kernel
theorem dMo_cell_8 : decode cMo_cell 8 = .ok (.iload_n 1, 1) := by decide +kernel
theorem dMo_cell_9 : decode cMo_cell 9 = .ok (.ifCond .lt 11, 3) := by decide +kernel
theorem dMo_cell_12 : decode cMo_cell 12 = .ok (.iload_n 1, 1) := by decide +kernel
theorem dMo_cell_13 : decode cMo_cell 13 = .ok (.aload_n 0, 1) := by decide +kernel
theorem dMo_cell_14 : decode cMo_cell 14 = .ok (.getfield 88, 3) := by decide +kernel
theorem dMo_cell_17 : decode cMo_cell 17 = .ok (.if_icmp .lt 7, 3) := by decide +kernel
theorem dMo_cell_20 : decode cMo_cell 20 = .ok (.iconst 1, 1) := by decide +kernel
theorem dMo_cell_21 : decode cMo_cell 21 = .ok (.goto 4, 3) := by decide +kernel
theorem dMo_cell_24 : decode cMo_cell 24 = .ok (.iconst 0, 1) := by decide +kernel
theorem dMo_cell_25 : decode cMo_cell 25 = .ok (.putfield 27, 3) := by decide +kernel
theorem dMo_cell_28 : decode cMo_cell 28 = .ok (.aload_n 0, 1) := by decide +kernel
theorem dMo_cell_29 : decode cMo_cell 29 = .ok (.getfield 27, 3) := by decide +kernel
theorem dMo_cell_32 : decode cMo_cell 32 = .ok (.ifCond .le 7, 3) := by decide +kernel
theorem dMo_cell_35 : decode cMo_cell 35 = .ok (.lconst 0, 1) := by decide +kernel
theorem dMo_cell_36 : decode cMo_cell 36 = .ok (.goto 9, 3) := by decide +kernel
theorem dMo_cell_39 : decode cMo_cell 39 = .ok (.aload_n 0, 1) := by decide +kernel
theorem dMo_cell_40 : decode cMo_cell 40 = .ok (.getfield 17, 3) := by decide +kernel
theorem dMo_cell_43 : decode cMo_cell 43 = .ok (.iload_n 1, 1) := by decide +kernel
theorem dMo_cell_44 : decode cMo_cell 44 = .ok (.laload, 1) := by decide +kernel
theorem dMo_cell_45 : decode cMo_cell 45 = .ok (.lreturn, 1) := by decide +kernel
theorem dMo_count_0 : decode cMo_count 0 = .ok (.aload_n 0, 1) := by decide +kernel
theorem dMo_count_1 : decode cMo_count 1 = .ok (.iload_n 1, 1) := by decide +kernel
theorem dMo_count_2 : decode cMo_count 2 = .ok (.ifCond .lt 8, 3) := by decide +kernel
theorem dMo_count_5 : decode cMo_count 5 = .ok (.iload_n 1, 1) := by decide +kernel
theorem dMo_count_6 : decode cMo_count 6 = .ok (.iconst 3, 1) := by decide +kernel
theorem dMo_count_7 : decode cMo_count 7 = .ok (.if_icmp .le 7, 3) := by decide +kernel
theorem dMo_count_10 : decode cMo_count 10 = .ok (.iconst 1, 1) := by decide +kernel
theorem dMo_count_11 : decode cMo_count 11 = .ok (.goto 15, 3) := by decide +kernel
theorem dMo_count_14 : decode cMo_count 14 = .ok (.aload_n 0, 1) := by decide +kernel
theorem dMo_count_15 : decode cMo_count 15 = .ok (.getfield 13, 3) := by decide +kernel
theorem dMo_count_18 : decode cMo_count 18 = .ok (.ifCond .ge 7, 3) := by decide +kernel
theorem dMo_count_21 : decode cMo_count 21 = .ok (.iconst 2, 1) := by decide +kernel
theorem dMo_count_22 : decode cMo_count 22 = .ok (.goto 4, 3) := by decide +kernel
theorem dMo_count_25 : decode cMo_count 25 = .ok (.iconst 0, 1) := by decide +kernel
theorem dMo_count_26 : decode cMo_count 26 = .ok (.putfield 27, 3) := by decide +kernel
theorem dMo_count_29 : decode cMo_count 29 = .ok (.iconst 0, 1) := by decide +kernel
theorem dMo_count_30 : decode cMo_count 30 = .ok (.istore 4, 2) := by decide +kernel
theorem dMo_count_32 : decode cMo_count 32 = .ok (.iconst 0, 1) := by decide +kernel
theorem dMo_count_33 : decode cMo_count 33 = .ok (.istore 5, 2) := by decide +kernel
theorem dMo_count_35 : decode cMo_count 35 = .ok (.iload 5, 2) := by decide +kernel
theorem dMo_count_37 : decode cMo_count 37 = .ok (.aload_n 0, 1) := by decide +kernel
theorem dMo_count_38 : decode cMo_count 38 = .ok (.getfield 88, 3) := by decide +kernel
theorem dMo_count_41 : decode cMo_count 41 = .ok (.if_icmp .ge 41, 3) := by decide +kernel
theorem dMo_count_44 : decode cMo_count 44 = .ok (.aload_n 0, 1) := by decide +kernel
theorem dMo_count_45 : decode cMo_count 45 = .ok (.getfield 27, 3) := by decide +kernel
theorem dMo_count_48 : decode cMo_count 48 = .ok (.ifCond .ne 34, 3) := by decide +kernel
theorem dMo_count_51 : decode cMo_count 51 = .ok (.iload 4, 2) := by decide +kernel
theorem dMo_count_53 : decode cMo_count 53 = .ok (.iload_n 1, 1) := by decide +kernel
theorem dMo_count_54 : decode cMo_count 54 = .ok (.aload_n 0, 1) := by decide +kernel
theorem dMo_count_55 : decode cMo_count 55 = .ok (.getfield 17, 3) := by decide +kernel
theorem dMo_count_58 : decode cMo_count 58 = .ok (.iload 5, 2) := by decide +kernel
theorem dMo_count_60 : decode cMo_count 60 = .ok (.laload, 1) := by decide +kernel
theorem dMo_count_61 : decode cMo_count 61 = .ok (.lload_n 2, 1) := by decide +kernel
theorem dMo_count_62 : decode cMo_count 62 = .ok (.invokestatic 103, 3) := by decide +kernel
theorem dMo_count_65 : decode cMo_count 65 = .ok (.ifCond .eq 7, 3) := by decide +kernel
theorem dMo_count_68 : decode cMo_count 68 = .ok (.iconst 1, 1) := by decide +kernel
theorem dMo_count_69 : decode cMo_count 69 = .ok (.goto 4, 3) := by decide +kernel
theorem dMo_count_72 : decode cMo_count 72 = .ok (.iconst 0, 1) := by decide +kernel
theorem dMo_count_73 : decode cMo_count 73 = .ok (.iadd, 1) := by decide +kernel
theorem dMo_count_74 : decode cMo_count 74 = .ok (.istore 4, 2) := by decide +kernel
theorem dMo_count_76 : decode cMo_count 76 = .ok (.iinc 5 1, 3) := by decide +kernel
theorem dMo_count_79 : decode cMo_count 79 = .ok (.goto (-44), 3) := by decide +kernel
theorem dMo_count_82 : decode cMo_count 82 = .ok (.iload 4, 2) := by decide +kernel
theorem dMo_count_84 : decode cMo_count 84 = .ok (.ireturn, 1) := by decide +kernel
theorem dMo_is_0 : decode cMo_is 0 = .ok (.iload_n 0, 1) := by decide +kernel
theorem dMo_is_1 : decode cMo_is 1 = .ok (.ifCond .ne 17, 3) := by decide +kernel
theorem dMo_is_4 : decode cMo_is 4 = .ok (.lload_n 1, 1) := by decide +kernel
theorem dMo_is_5 : decode cMo_is 5 = .ok (.lload_n 3, 1) := by decide +kernel
theorem dMo_is_6 : decode cMo_is 6 = .ok (.lcmp, 1) := by decide +kernel
theorem dMo_is_7 : decode cMo_is 7 = .ok (.ifCond .ne 7, 3) := by decide +kernel
theorem dMo_is_10 : decode cMo_is 10 = .ok (.iconst 1, 1) := by decide +kernel
theorem dMo_is_11 : decode cMo_is 11 = .ok (.goto 58, 3) := by decide +kernel
theorem dMo_is_14 : decode cMo_is 14 = .ok (.iconst 0, 1) := by decide +kernel
theorem dMo_is_15 : decode cMo_is 15 = .ok (.goto 54, 3) := by decide +kernel
theorem dMo_is_18 : decode cMo_is 18 = .ok (.iload_n 0, 1) := by decide +kernel
theorem dMo_is_19 : decode cMo_is 19 = .ok (.iconst 1, 1) := by decide +kernel
theorem dMo_is_20 : decode cMo_is 20 = .ok (.if_icmp .ne 17, 3) := by decide +kernel
theorem dMo_is_23 : decode cMo_is 23 = .ok (.lload_n 1, 1) := by decide +kernel
theorem dMo_is_24 : decode cMo_is 24 = .ok (.lload_n 3, 1) := by decide +kernel
theorem dMo_is_25 : decode cMo_is 25 = .ok (.lcmp, 1) := by decide +kernel
theorem dMo_is_26 : decode cMo_is 26 = .ok (.ifCond .ge 7, 3) := by decide +kernel
theorem dMo_is_29 : decode cMo_is 29 = .ok (.iconst 1, 1) := by decide +kernel
theorem dMo_is_30 : decode cMo_is 30 = .ok (.goto 39, 3) := by decide +kernel
theorem dMo_is_33 : decode cMo_is 33 = .ok (.iconst 0, 1) := by decide +kernel
theorem dMo_is_34 : decode cMo_is 34 = .ok (.goto 35, 3) := by decide +kernel
theorem dMo_is_37 : decode cMo_is 37 = .ok (.iload_n 0, 1) := by decide +kernel
theorem dMo_is_38 : decode cMo_is 38 = .ok (.iconst 2, 1) := by decide +kernel
theorem dMo_is_39 : decode cMo_is 39 = .ok (.if_icmp .ne 17, 3) := by decide +kernel
theorem dMo_is_42 : decode cMo_is 42 = .ok (.lload_n 1, 1) := by decide +kernel
theorem dMo_is_43 : decode cMo_is 43 = .ok (.lload_n 3, 1) := by decide +kernel
theorem dMo_is_44 : decode cMo_is 44 = .ok (.lcmp, 1) := by decide +kernel
theorem dMo_is_45 : decode cMo_is 45 = .ok (.ifCond .le 7, 3) := by decide +kernel
theorem dMo_is_48 : decode cMo_is 48 = .ok (.iconst 1, 1) := by decide +kernel
theorem dMo_is_49 : decode cMo_is 49 = .ok (.goto 20, 3) := by decide +kernel
theorem dMo_is_52 : decode cMo_is 52 = .ok (.iconst 0, 1) := by decide +kernel
theorem dMo_is_53 : decode cMo_is 53 = .ok (.goto 16, 3) := by decide +kernel
theorem dMo_is_56 : decode cMo_is 56 = .ok (.lload_n 1, 1) := by decide +kernel
theorem dMo_is_57 : decode cMo_is 57 = .ok (.lload_n 3, 1) := by decide +kernel
theorem dMo_is_58 : decode cMo_is 58 = .ok (.land, 1) := by decide +kernel
theorem dMo_is_59 : decode cMo_is 59 = .ok (.lload_n 3, 1) := by decide +kernel
theorem dMo_is_60 : decode cMo_is 60 = .ok (.lcmp, 1) := by decide +kernel
theorem dMo_is_61 : decode cMo_is 61 = .ok (.ifCond .ne 7, 3) := by decide +kernel
theorem dMo_is_64 : decode cMo_is 64 = .ok (.iconst 1, 1) := by decide +kernel
theorem dMo_is_65 : decode cMo_is 65 = .ok (.goto 4, 3) := by decide +kernel
theorem dMo_is_68 : decode cMo_is 68 = .ok (.iconst 0, 1) := by decide +kernel
theorem dMo_is_69 : decode cMo_is 69 = .ok (.ireturn, 1) := by decide +kernel
theorem dMo_sum_0 : decode cMo_sum 0 = .ok (.aload_n 0, 1) := by decide +kernel
theorem dMo_sum_1 : decode cMo_sum 1 = .ok (.aload_n 0, 1) := by decide +kernel
theorem dMo_sum_2 : decode cMo_sum 2 = .ok (.getfield 13, 3) := by decide +kernel
theorem dMo_sum_5 : decode cMo_sum 5 = .ok (.ifCond .ge 7, 3) := by decide +kernel
theorem dMo_sum_8 : decode cMo_sum 8 = .ok (.iconst 1, 1) := by decide +kernel
theorem dMo_sum_9 : decode cMo_sum 9 = .ok (.goto 4, 3) := by decide +kernel
theorem dMo_sum_12 : decode cMo_sum 12 = .ok (.iconst 0, 1) := by decide +kernel
theorem dMo_sum_13 : decode cMo_sum 13 = .ok (.putfield 27, 3) := by decide +kernel
theorem dMo_sum_16 : decode cMo_sum 16 = .ok (.lconst 0, 1) := by decide +kernel
theorem dMo_sum_17 : decode cMo_sum 17 = .ok (.lstore 5, 2) := by decide +kernel
theorem dMo_sum_19 : decode cMo_sum 19 = .ok (.iconst 0, 1) := by decide +kernel
theorem dMo_sum_20 : decode cMo_sum 20 = .ok (.istore 7, 2) := by decide +kernel
theorem dMo_sum_22 : decode cMo_sum 22 = .ok (.iload 7, 2) := by decide +kernel
theorem dMo_sum_24 : decode cMo_sum 24 = .ok (.aload_n 0, 1) := by decide +kernel
theorem dMo_sum_25 : decode cMo_sum 25 = .ok (.getfield 88, 3) := by decide +kernel
theorem dMo_sum_28 : decode cMo_sum 28 = .ok (.if_icmp .ge 56, 3) := by decide +kernel
theorem dMo_sum_31 : decode cMo_sum 31 = .ok (.aload_n 0, 1) := by decide +kernel
theorem dMo_sum_32 : decode cMo_sum 32 = .ok (.getfield 27, 3) := by decide +kernel
theorem dMo_sum_35 : decode cMo_sum 35 = .ok (.ifCond .ne 49, 3) := by decide +kernel
theorem dMo_sum_38 : decode cMo_sum 38 = .ok (.lload 5, 2) := by decide +kernel
theorem dMo_sum_40 : decode cMo_sum 40 = .ok (.aload_n 0, 1) := by decide +kernel
theorem dMo_sum_41 : decode cMo_sum 41 = .ok (.getfield 17, 3) := by decide +kernel
theorem dMo_sum_44 : decode cMo_sum 44 = .ok (.iload 7, 2) := by decide +kernel
theorem dMo_sum_46 : decode cMo_sum 46 = .ok (.laload, 1) := by decide +kernel
theorem dMo_sum_47 : decode cMo_sum 47 = .ok (.lload_n 1, 1) := by decide +kernel
theorem dMo_sum_48 : decode cMo_sum 48 = .ok (.lcmp, 1) := by decide +kernel
theorem dMo_sum_49 : decode cMo_sum 49 = .ok (.ifCond .lt 25, 3) := by decide +kernel
theorem dMo_sum_52 : decode cMo_sum 52 = .ok (.aload_n 0, 1) := by decide +kernel
theorem dMo_sum_53 : decode cMo_sum 53 = .ok (.getfield 17, 3) := by decide +kernel
theorem dMo_sum_56 : decode cMo_sum 56 = .ok (.iload 7, 2) := by decide +kernel
theorem dMo_sum_58 : decode cMo_sum 58 = .ok (.laload, 1) := by decide +kernel
theorem dMo_sum_59 : decode cMo_sum 59 = .ok (.lload_n 3, 1) := by decide +kernel
theorem dMo_sum_60 : decode cMo_sum 60 = .ok (.lcmp, 1) := by decide +kernel
theorem dMo_sum_61 : decode cMo_sum 61 = .ok (.ifCond .gt 13, 3) := by decide +kernel
theorem dMo_sum_64 : decode cMo_sum 64 = .ok (.aload_n 0, 1) := by decide +kernel
theorem dMo_sum_65 : decode cMo_sum 65 = .ok (.getfield 17, 3) := by decide +kernel
theorem dMo_sum_68 : decode cMo_sum 68 = .ok (.iload 7, 2) := by decide +kernel
theorem dMo_sum_70 : decode cMo_sum 70 = .ok (.laload, 1) := by decide +kernel
theorem dMo_sum_71 : decode cMo_sum 71 = .ok (.goto 4, 3) := by decide +kernel
theorem dMo_sum_74 : decode cMo_sum 74 = .ok (.lconst 0, 1) := by decide +kernel
theorem dMo_sum_75 : decode cMo_sum 75 = .ok (.ladd, 1) := by decide +kernel
theorem dMo_sum_76 : decode cMo_sum 76 = .ok (.lstore 5, 2) := by decide +kernel
theorem dMo_sum_78 : decode cMo_sum 78 = .ok (.iinc 7 1, 3) := by decide +kernel
theorem dMo_sum_81 : decode cMo_sum 81 = .ok (.goto (-59), 3) := by decide +kernel
theorem dMo_sum_84 : decode cMo_sum 84 = .ok (.lload 5, 2) := by decide +kernel
theorem dMo_sum_86 : decode cMo_sum 86 = .ok (.lreturn, 1) := by decide +kernel
end
section
/-! ===== Int32 by its bits: bt x i ===== -/
def bt (x : Int32) (i : Nat) : Bool := x.toBitVec.getLsbD i
theorem b_ext {x y : Int32} (h : ∀ i, i < 32 → bt x i = bt y i) : x = y := Int32.toBitVec_inj.mp (BitVec.eq_of_getLsbD_eq (fun i hi => h i hi))
theorem b_or (x y : Int32) (i : Nat) : bt (x ||| y) i = (bt x i || bt y i) := by unfold bt; rw [Int32.toBitVec_or, BitVec.getLsbD_or]
theorem b_and (x y : Int32) (i : Nat) : bt (x &&& y) i = (bt x i && bt y i) := by unfold bt; rw [Int32.toBitVec_and, BitVec.getLsbD_and]
theorem b_xor (x y : Int32) (i : Nat) : bt (x ^^^ y) i = (bt x i ^^ bt y i) := by unfold bt; rw [Int32.toBitVec_xor, BitVec.getLsbD_xor]
theorem b_big {x : Int32} {i : Nat} (h : 32 ≤ i) : bt x i = false := BitVec.getLsbD_of_ge _ _ h
theorem b_255 (i : Nat) : bt 255 i = decide (i < 8) := by
  rcases Nat.lt_or_ge i 32 with h | h
  · exact (by decide +kernel : ∀ i, i < 32 → bt 255 i = decide (i < 8)) i h
  · rw [b_big h, decide_eq_false (by omega)]
theorem b_65535 (i : Nat) : bt 65535 i = decide (i < 16) := by
  rcases Nat.lt_or_ge i 32 with h | h
  · exact (by decide +kernel : ∀ i, i < 32 → bt 65535 i = decide (i < 16)) i h
  · rw [b_big h, decide_eq_false (by omega)]
theorem b_m1 : ∀ i, i < 32 → bt (-1) i = true := by decide +kernel
theorem b_0 (i : Nat) : bt 0 i = false := BitVec.getLsbD_zero
theorem s_l : ∀ n, n < 32 → ((nI n &&& 31).toBitVec.smod 32).toNat = n := by decide +kernel
theorem s_u : ∀ n, n < 32 → (((nI n).toUInt32 &&& Int32.toUInt32 31).toBitVec % 32).toNat = n := by decide +kernel
theorem b_shl (n : Nat) (hn : n < 32) (x : Int32) {i : Nat} (hi : i < 32) : bt (x <<< (nI n &&& 31)) i = (decide (n ≤ i) && bt x (i - n)) := by
  unfold bt
  rw [Int32.toBitVec_shiftLeft]
  show (x.toBitVec <<< ((nI n &&& 31).toBitVec.smod 32).toNat).getLsbD i = _
  rw [s_l n hn, BitVec.getLsbD_shiftLeft]
  rcases Nat.lt_or_ge i n with h | h
  · simp [h, Nat.not_le.mpr h]
  · simp [hi, h, Nat.not_lt.mpr h]
theorem b_ushr (n : Nat) (hn : n < 32) (x : Int32) (i : Nat) : bt ((x.toUInt32 >>> ((nI n).toUInt32 &&& Int32.toUInt32 31)).toInt32) i = bt x (n + i) := by
  show (x.toUInt32 >>> ((nI n).toUInt32 &&& Int32.toUInt32 31)).toBitVec.getLsbD i = x.toUInt32.toBitVec.getLsbD (n + i)
  rw [UInt32.toBitVec_shiftRight]
  show (x.toUInt32.toBitVec >>> (((nI n).toUInt32 &&& Int32.toUInt32 31).toBitVec % 32).toNat).getLsbD i = _
  rw [s_u n hn, BitVec.getLsbD_ushiftRight]
theorem b_sshr (n : Nat) (hn : n < 32) (x : Int32) {i : Nat} (hi : i < 32) : bt (x >>> (nI n &&& 31)) i = if n + i < 32 then bt x (n + i) else bt x 31 := by
  unfold bt
  rw [Int32.toBitVec_shiftRight]
  show (x.toBitVec.sshiftRight ((nI n &&& 31).toBitVec.smod 32).toNat).getLsbD i = _
  rw [s_l n hn, BitVec.getLsbD_sshiftRight, BitVec.msb_eq_getLsbD_last]
  simp [hi]
theorem b_shl8 (x : Int32) {i : Nat} (hi : i < 32) : bt (x <<< ((8 : Int32) &&& 31)) i = (decide (8 ≤ i) && bt x (i - 8)) := b_shl 8 (by omega) x hi
theorem b_shl16 (x : Int32) {i : Nat} (hi : i < 32) : bt (x <<< ((16 : Int32) &&& 31)) i = (decide (16 ≤ i) && bt x (i - 16)) := b_shl 16 (by omega) x hi
theorem b_shl24 (x : Int32) {i : Nat} (hi : i < 32) : bt (x <<< ((24 : Int32) &&& 31)) i = (decide (24 ≤ i) && bt x (i - 24)) := b_shl 24 (by omega) x hi
theorem b_sshr8 (x : Int32) {i : Nat} (hi : i < 32) : bt (x >>> ((8 : Int32) &&& 31)) i = if 8 + i < 32 then bt x (8 + i) else bt x 31 := b_sshr 8 (by omega) x hi
/-! ===== Int64 as an unsigned number: uN x ===== -/
def uN (x : Int64) : Nat := x.toUInt64.toNat
theorem uN_lt (x : Int64) : uN x < 18446744073709551616 := x.toUInt64.toNat_lt
theorem uN_inj {x y : Int64} (h : uN x = uN y) : x = y := congrArg UInt64.toInt64 (UInt64.toNat_inj.mp h)
theorem uN_add (x y : Int64) : uN (x + y) = (uN x + uN y) % 18446744073709551616 := by
  show (x.toUInt64 + y.toUInt64).toNat = _
  exact UInt64.toNat_add _ _
theorem uN_mul (x y : Int64) : uN (x * y) = (uN x * uN y) % 18446744073709551616 := by
  show (x.toUInt64 * y.toUInt64).toNat = _
  exact UInt64.toNat_mul _ _
theorem uN_shl (x : Int64) : uN (x <<< ((1 : Int32).toInt64 &&& 63)) = (2 * uN x) % 18446744073709551616 := by
  have h : (((1 : Int32).toInt64 &&& 63).toBitVec.smod 64).toNat = 1 := by decide
  show (x.toBitVec <<< (((1 : Int32).toInt64 &&& 63).toBitVec.smod 64).toNat).toNat = _
  rw [h, BitVec.toNat_shiftLeft, Nat.shiftLeft_eq, Nat.mul_comm]
  rfl
theorem uN_shr (x : Int64) (s : UInt64) : uN (x.toUInt64 >>> s).toInt64 = uN x / 2 ^ (s.toNat % 64) := by
  show (x.toUInt64 >>> s).toNat = _
  rw [UInt64.toNat_shiftRight, Nat.shiftRight_eq_div_pow]
  rfl
theorem uN_s32 (x : Int64) : uN (x.toUInt64 >>> ((32 : Int32).toInt64.toUInt64 &&& Int64.toUInt64 63)).toInt64 = uN x / 4294967296 := by
  have h : ((32 : Int32).toInt64.toUInt64 &&& Int64.toUInt64 63).toNat % 64 = 32 := by decide
  rw [uN_shr, h]
theorem uN_s63 (x : Int64) : uN (x.toUInt64 >>> ((63 : Int32).toInt64.toUInt64 &&& Int64.toUInt64 63)).toInt64 = uN x / 9223372036854775808 := by
  have h : ((63 : Int32).toInt64.toUInt64 &&& Int64.toUInt64 63).toNat % 64 = 63 := by decide
  rw [uN_shr, h]
theorem uN_lo (x : Int64) : uN (x &&& 4294967295) = uN x % 4294967296 := by
  show (x.toUInt64 &&& Int64.toUInt64 4294967295).toNat = _
  rw [UInt64.toNat_and]
  exact Nat.and_two_pow_sub_one_eq_mod _ 32
theorem uN_bit (x : Int64) : (x &&& 1) = 0 ↔ uN x % 2 = 0 := by
  have h : uN (x &&& 1) = uN x % 2 := by
    show (x.toUInt64 &&& Int64.toUInt64 1).toNat = _
    rw [UInt64.toNat_and]
    exact Nat.and_two_pow_sub_one_eq_mod _ 1
  rw [← h]
  exact ⟨fun z => by rw [z]; rfl, fun z => uN_inj (z.trans rfl)⟩
theorem uN_or {x y : Int64} (hy : uN y < 2) : uN ((x <<< ((1 : Int32).toInt64 &&& 63)) ||| y) = (2 * uN x) % 18446744073709551616 + uN y := by
  have h1 : uN ((x <<< ((1 : Int32).toInt64 &&& 63)) ||| y) = uN (x <<< ((1 : Int32).toInt64 &&& 63)) ||| uN y := UInt64.toNat_or _ _
  have h2 : (2 * uN x) % 18446744073709551616 = 2 ^ 1 * (uN x % 9223372036854775808) := by omega
  rw [h1, uN_shl, h2]
  exact (Nat.two_pow_add_eq_or_of_lt (i := 1) hy _).symm
theorem nat_xor {a : Nat} (h : a < 18446744073709551616) : a ^^^ 2 ^ 63 = (a + 9223372036854775808) % 18446744073709551616 := by
  have h1 : (a ^^^ 2 ^ 63) % 2 ^ 63 = a % 2 ^ 63 := by rw [Nat.xor_mod_two_pow, Nat.mod_self, Nat.xor_zero]
  have h2 : (a ^^^ 2 ^ 63) / 2 ^ 63 = (a / 2 ^ 63) ^^^ 1 := by rw [Nat.xor_div_two_pow, Nat.div_self (Nat.two_pow_pos 63)]
  have h3 : a / 2 ^ 63 = 0 ∨ a / 2 ^ 63 = 1 := by omega
  generalize a ^^^ 2 ^ 63 = t at h1 h2
  rcases h3 with h3 | h3
  · rw [h3] at h2
    have h2 : t / 2 ^ 63 = 1 := h2
    omega
  · rw [h3] at h2
    have h2 : t / 2 ^ 63 = 0 := h2
    omega
theorem uN_xor (x : Int64) : uN (x ^^^ (-9223372036854775808)) = (uN x + 9223372036854775808) % 18446744073709551616 := by
  rw [← nat_xor (uN_lt x)]
  exact UInt64.toNat_xor _ _
theorem uN_int (x : Int64) : x.toInt = if 2 * uN x < 18446744073709551616 then (uN x : Int) else (uN x : Int) - 18446744073709551616 := BitVec.toInt_eq_toNat_cond _
theorem uN_le (x y : Int64) : (x ^^^ (-9223372036854775808)) ≤ (y ^^^ (-9223372036854775808)) ↔ uN x ≤ uN y := by
  have hx := uN_lt x
  have hy := uN_lt y
  rw [Int64.le_iff_toInt_le, uN_int, uN_int, uN_xor, uN_xor]
  omega
theorem uN_sk (x : Int64) {k : Nat} (hk : k < 64) : uN (x.toUInt64 >>> ((nI k).toInt64.toUInt64 &&& Int64.toUInt64 63)).toInt64 = uN x / 2 ^ k := by
  have h : ((nI k).toInt64.toUInt64 &&& Int64.toUInt64 63).toNat % 64 = k := by
    rw [nI_l (by omega), UInt64.toNat_and]
    have e : (lN k).toUInt64.toNat = k % 2 ^ 64 := rfl
    have e2 : (Int64.toUInt64 63).toNat = 2 ^ 6 - 1 := by decide
    rw [e, e2, Nat.and_two_pow_sub_one_eq_mod]
    omega
  rw [uN_shr, h]
end
section
/-! longs by their bits -/
def bL (x : Int64) (i : Nat) : Bool := x.toBitVec.getLsbD i
theorem bL_ext {x y : Int64} (h : ∀ i, i < 64 → bL x i = bL y i) : x = y := Int64.toBitVec_inj.mp (BitVec.eq_of_getLsbD_eq (fun i hi => h i hi))
theorem bL_or (x y : Int64) (i : Nat) : bL (x ||| y) i = (bL x i || bL y i) := by unfold bL; rw [Int64.toBitVec_or, BitVec.getLsbD_or]
theorem bL_and (x y : Int64) (i : Nat) : bL (x &&& y) i = (bL x i && bL y i) := by unfold bL; rw [Int64.toBitVec_and, BitVec.getLsbD_and]
theorem bL_big {x : Int64} {i : Nat} (h : 64 ≤ i) : bL x i = false := BitVec.getLsbD_of_ge _ _ h
theorem bL_0 (i : Nat) : bL 0 i = false := BitVec.getLsbD_zero
theorem s6_u : ∀ n, n < 64 → (((nI n).toInt64.toUInt64 &&& Int64.toUInt64 63).toBitVec % 64).toNat = n := by decide +kernel
theorem s6_l : ∀ n, n < 64 → (((nI n).toInt64 &&& 63).toBitVec.smod 64).toNat = n := by decide +kernel
theorem bL_ushr (n : Nat) (hn : n < 64) (x : Int64) (i : Nat) : bL ((x.toUInt64 >>> ((nI n).toInt64.toUInt64 &&& Int64.toUInt64 63)).toInt64) i = bL x (n + i) := by
  show (x.toUInt64 >>> ((nI n).toInt64.toUInt64 &&& Int64.toUInt64 63)).toBitVec.getLsbD i = x.toUInt64.toBitVec.getLsbD (n + i)
  rw [UInt64.toBitVec_shiftRight]
  show (x.toUInt64.toBitVec >>> (((nI n).toInt64.toUInt64 &&& Int64.toUInt64 63).toBitVec % 64).toNat).getLsbD i = _
  rw [s6_u n hn, BitVec.getLsbD_ushiftRight]
theorem bL_shl (n : Nat) (hn : n < 64) (x : Int64) {i : Nat} (hi : i < 64) : bL (x <<< ((nI n).toInt64 &&& 63)) i = (decide (n ≤ i) && bL x (i - n)) := by
  unfold bL
  rw [Int64.toBitVec_shiftLeft]
  show (x.toBitVec <<< (((nI n).toInt64 &&& 63).toBitVec.smod 64).toNat).getLsbD i = _
  rw [s6_l n hn, BitVec.getLsbD_shiftLeft]
  rcases Nat.lt_or_ge i n with h | h
  · simp [h, Nat.not_le.mpr h]
  · simp [hi, h, Nat.not_lt.mpr h]
theorem bL_l2i (x : Int64) {i : Nat} (hi : i < 32) : bt x.toInt32 i = bL x i := by
  show (x.toBitVec.signExtend 32).getLsbD i = x.toBitVec.getLsbD i
  rw [BitVec.getLsbD_signExtend]
  simp [hi, show i < 64 by omega]
theorem bL_i2l (x : Int32) {i : Nat} (hi : i < 32) : bL x.toInt64 i = bt x i := by
  show (x.toBitVec.signExtend 64).getLsbD i = x.toBitVec.getLsbD i
  rw [BitVec.getLsbD_signExtend]
  simp [hi, show i < 64 by omega]
theorem bL_i2lh (x : Int32) {i : Nat} (hi : 32 ≤ i) (h : bt x 31 = false) : bL x.toInt64 i = false := by
  show (x.toBitVec.signExtend 64).getLsbD i = false
  rw [BitVec.getLsbD_signExtend, BitVec.msb_eq_getLsbD_last]
  have h : x.toBitVec.getLsbD 31 = false := h
  simp [show ¬ i < 32 by omega]
  intro _
  rw [← BitVec.getLsbD_eq_getElem]
  exact h
theorem bt_i8 (x : Int32) {i : Nat} (hi : i < 8) : bt x.toInt8.toInt32 i = bt x i := by
  show ((x.toBitVec.signExtend 8).signExtend 32).getLsbD i = x.toBitVec.getLsbD i
  rw [BitVec.getLsbD_signExtend, BitVec.getLsbD_signExtend]
  simp [hi, show i < 32 by omega]
theorem bt_nI (k : Nat) {i : Nat} (hi : i < 32) : bt (nI k) i = k.testBit i := by
  show (BitVec.ofNat 32 k).getLsbD i = _
  rw [BitVec.getLsbD_ofNat]
  simp [hi]
theorem bL_lN (k : Nat) {i : Nat} (hi : i < 64) : bL (lN k) i = k.testBit i := by
  show (BitVec.ofNat 64 k).getLsbD i = _
  rw [BitVec.getLsbD_ofNat]
  simp [hi]
/-- (1 << k) - 1 : k ones -/
theorem bt_ones : ∀ k, k < 9 → ∀ i, i < 32 → bt (((nI 1) <<< (nI k &&& 31)) - nI 1) i = decide (i < k) := by decide +kernel
/-! the column: B its bits, bc how many; o the bytes that hold them, the last one filled up with 0 -/
def oB (o : Nat → Int32) (bc : Nat) (B : Nat → Bool) : Prop := ∀ i, i < 8 * ((bc + 7) / 8) → bt (o (i / 8)) (7 - i % 8) = (decide (i < bc) && B i)
/-- the bits a .. a + w - 1 are those of v, the highest first -/
def fld (B : Nat → Bool) (a w : Nat) (v : Int64) : Prop := ∀ k, k < w → B (a + k) = bL v (w - 1 - k)
def bA (B : Nat → Bool) (bc : Nat) (v : Int64) (w : Nat) : Nat → Bool := fun i => if i < bc then B i else bL v (bc + w - 1 - i)
theorem bA_lo {B : Nat → Bool} {bc : Nat} {v : Int64} {w i : Nat} (h : i < bc) : bA B bc v w i = B i := if_pos h
theorem bA_hi {B : Nat → Bool} {bc : Nat} {v : Int64} {w i : Nat} (h : bc ≤ i) : bA B bc v w i = bL v (bc + w - 1 - i) := if_neg (by omega)
theorem bA_fld (B : Nat → Bool) (bc : Nat) (v : Int64) (w : Nat) : fld (bA B bc v w) bc w v := fun k hk => by
  rw [bA_hi (by omega)]
  congr 1
  omega
theorem fld_keep {B : Nat → Bool} {bc a w : Nat} {v u : Int64} {z : Nat} (h : fld B a w u) (ha : a + w ≤ bc) : fld (bA B bc v z) a w u := fun k hk => by
  rw [bA_lo (by omega)]
  exact h k hk
theorem oB_congr {o : Nat → Int32} {bc : Nat} {B B' : Nat → Bool} (h : oB o bc B) (hB : ∀ i, i < bc → B' i = B i) : oB o bc B' := fun i hi => by
  rw [h i hi]
  by_cases hc : i < bc
  · rw [hB i hc]
  · simp [hc]
/-- one piece of at most a byte comes behind -/
theorem oB_add {o : Nat → Int32} {b tk : Nat} {B : Nat → Bool} {sh : Int32} (h : oB o b B) (h1 : 1 ≤ tk) (h8 : b % 8 + tk ≤ 8)
    (hs : ∀ p, p < 8 → bt sh p = (decide (8 - b % 8 - tk ≤ p) && (decide (p < 8 - b % 8) && B (8 * (b / 8) + 7 - p)))) :
    oB (upd o (b / 8) (vp_nar .byte (((if b % 8 = 0 then 0 else o (b / 8)) ||| sh).toInt8.toInt32))) (b + tk) B := by
  intro i hi
  have hz : (b + tk + 7) / 8 = b / 8 + 1 := by omega
  rw [hz] at hi
  by_cases hc : i / 8 = b / 8
  · rw [hc, pk_us, pk_vb, bt_i8 _ (by omega), b_or]
    have e1 : 8 * (b / 8) + 7 - (7 - i % 8) = i := by omega
    rw [hs _ (by omega), e1]
    by_cases h0 : b % 8 = 0
    · rw [if_pos h0, b_0]
      by_cases hb : i < b + tk
      · have q1 : 8 - b % 8 - tk ≤ 7 - i % 8 := by omega
        have q2 : 7 - i % 8 < 8 - b % 8 := by omega
        simp [hb, q1, q2]
      · have q1 : ¬ 8 - b % 8 - tk ≤ 7 - i % 8 := by omega
        simp [hb, q1]
    · rw [if_neg h0]
      have h9 := h i (by omega)
      rw [hc] at h9
      rw [h9]
      by_cases hb : i < b
      · have q0 : i < b + tk := by omega
        have q2 : ¬ 7 - i % 8 < 8 - b % 8 := by omega
        simp [hb, q0, q2]
      · by_cases hb2 : i < b + tk
        · have q1 : 8 - b % 8 - tk ≤ 7 - i % 8 := by omega
          have q2 : 7 - i % 8 < 8 - b % 8 := by omega
          simp [hb, hb2, q1, q2]
        · have q1 : ¬ 8 - b % 8 - tk ≤ 7 - i % 8 := by omega
          simp [hb, hb2, q1]
  · rw [pk_un hc, h i (by omega)]
    have q0 : i < b := by omega
    have q1 : i < b + tk := by omega
    simp [q0, q1]
/-- the bits of r are those of the column from a on -/
def rdV (B : Nat → Bool) (a w : Nat) (r : Int64) : Prop := ∀ t, t < 64 → bL r t = (decide (t < w) && B (a + w - 1 - t))
theorem rdV_fld {B : Nat → Bool} {a w : Nat} {r v : Int64} (h : rdV B a w r) (hf : fld B a w v) (hv : ∀ t, w ≤ t → bL v t = false) : r = v := bL_ext fun t ht => by
  rw [h t ht]
  by_cases hc : t < w
  · have h9 := hf (w - 1 - t) (by omega)
    rw [show a + (w - 1 - t) = a + w - 1 - t by omega, show w - 1 - (w - 1 - t) = t by omega] at h9
    simp [hc, h9]
  · rw [hv t (by omega)]
    simp [hc]
/-- the piece that append lays: lf bits of v are left, tk of them come, behind bit b1 -/
theorem ap_piece {B : Nat → Bool} {b0 w b1 lf tk : Nat} {v : Int64} (hw : w ≤ 64) (e : b1 + lf = b0 + w) (hle : lf ≤ w) (h1 : 1 ≤ tk) (h2 : tk ≤ lf) (h3 : b1 % 8 + tk ≤ 8) :
    ∀ p, p < 8 → bt (((v.toUInt64 >>> ((nI (lf - tk)).toInt64.toUInt64 &&& Int64.toUInt64 63)).toInt64.toInt32 &&& ((nI 1 <<< (nI tk &&& 31)) - nI 1)) <<< (nI (8 - b1 % 8 - tk) &&& 31)) p = (decide (8 - b1 % 8 - tk ≤ p) && (decide (p < 8 - b1 % 8) && bA B b0 v w (8 * (b1 / 8) + 7 - p))) := by
  intro p hp
  rw [b_shl _ (by omega) _ (by omega)]
  by_cases c1 : 8 - b1 % 8 - tk ≤ p
  · rw [b_and, bL_l2i _ (by omega), bL_ushr _ (by omega), bt_ones _ (by omega) _ (by omega)]
    by_cases c2 : p < 8 - b1 % 8
    · rw [bA_hi (by omega), show lf - tk + (p - (8 - b1 % 8 - tk)) = b0 + w - 1 - (8 * (b1 / 8) + 7 - p) by omega]
      have c3 : p - (8 - b1 % 8 - tk) < tk := by omega
      simp [c1, c2, c3]
    · have c3 : ¬ p - (8 - b1 % 8 - tk) < tk := by omega
      simp [c1, c2, c3]
  · simp [c1]
/-- the piece that bitsAt takes -/
theorem rd_piece {o : Nat → Int32} {bc : Nat} {B : Nat → Bool} {a dn b1 tk : Nat} {v : Int64} (hc : oB o bc B) (e : b1 = a + dn) (h0 : b1 + tk ≤ bc) (h1 : 1 ≤ tk) (h3 : b1 % 8 + tk ≤ 8) (hd : dn + tk ≤ 64) (h : rdV B a dn v) :
    rdV B a (dn + tk) ((v <<< ((nI tk).toInt64 &&& 63)) ||| ((((o (b1 / 8) &&& 255).toUInt32 >>> ((nI (8 - b1 % 8 - tk)).toUInt32 &&& Int32.toUInt32 31)).toInt32 &&& ((nI 1 <<< (nI tk &&& 31)) - nI 1)).toInt64)) := by
  intro t ht
  have hp : ∀ j, j < 32 → bt (((o (b1 / 8) &&& 255).toUInt32 >>> ((nI (8 - b1 % 8 - tk)).toUInt32 &&& Int32.toUInt32 31)).toInt32 &&& ((nI 1 <<< (nI tk &&& 31)) - nI 1)) j = (decide (j < tk) && bt (o (b1 / 8)) (8 - b1 % 8 - tk + j)) := by
    intro j hj
    rw [b_and, b_ushr _ (by omega), b_and, b_255, bt_ones _ (by omega) _ hj]
    by_cases c : j < tk
    · have c2 : 8 - b1 % 8 - tk + j < 8 := by omega
      simp [c, c2]
    · simp [c]
  rw [bL_or, bL_shl _ (by omega) _ ht]
  by_cases c : t < tk
  · rw [bL_i2l _ (by omega), hp t (by omega)]
    have h9 := hc (b1 + tk - 1 - t) (by omega)
    rw [show (b1 + tk - 1 - t) / 8 = b1 / 8 by omega, show 7 - (b1 + tk - 1 - t) % 8 = 8 - b1 % 8 - tk + t by omega] at h9
    rw [h9, show a + (dn + tk) - 1 - t = b1 + tk - 1 - t by omega]
    have q1 : ¬ tk ≤ t := by omega
    have q2 : t < dn + tk := by omega
    have q3 : b1 + tk - 1 - t < bc := by omega
    simp [c, q1, q2, q3]
  · have q1 : tk ≤ t := by omega
    have hz : bL ((((o (b1 / 8) &&& 255).toUInt32 >>> ((nI (8 - b1 % 8 - tk)).toUInt32 &&& Int32.toUInt32 31)).toInt32 &&& ((nI 1 <<< (nI tk &&& 31)) - nI 1)).toInt64) t = false := by
      by_cases c2 : t < 32
      · rw [bL_i2l _ c2, hp t c2]
        simp [c]
      · refine bL_i2lh _ (by omega) ?_
        rw [hp 31 (by omega)]
        have c3 : ¬ 31 < tk := by omega
        simp [c3]
    rw [hz, h (t - tk) (by omega), show a + (dn + tk) - 1 - t = a + dn - 1 - (t - tk) by omega]
    by_cases c4 : t < dn + tk
    · have c5 : t - tk < dn := by omega
      simp [q1, c4, c5]
    · have c5 : ¬ t - tk < dn := by omega
      simp [q1, c4, c5]
theorem nI_mn {a b : Nat} (ha : a < 2 ^ 31) (hb : b < 2 ^ 31) : (if nI b < nI a then nI b else nI a) = nI (min a b) := by
  by_cases h : b < a
  · rw [if_pos ((nI_ltI hb ha).mpr h), show min a b = b by omega]
  · rw [if_neg (fun q => h ((nI_ltI hb ha).mp q)), show min a b = a by omega]
theorem rdV_0 (B : Nat → Bool) (a : Nat) : rdV B a 0 0 := fun t _ => by rw [bL_0]; simp
/-! how many binary digits -/
def bln (n : Nat) : Nat := if n = 0 then 0 else n.log2 + 1
theorem bln_0 : bln 0 = 0 := rfl
theorem bln_iff {n k : Nat} (h : 0 < n) : bln n = k + 1 ↔ 2 ^ k ≤ n ∧ n < 2 ^ (k + 1) := by
  have h0 : n ≠ 0 := by omega
  unfold bln
  rw [if_neg h0, Nat.add_right_cancel_iff]
  exact Nat.log2_eq_iff h0
theorem bln_lt (n : Nat) : n < 2 ^ bln n := by
  by_cases h : n = 0
  · rw [h]; decide
  · unfold bln
    rw [if_neg h]
    exact Nat.lt_log2_self
theorem bln_le {n k : Nat} (h : n < 2 ^ k) : bln n ≤ k := by
  by_cases h0 : n = 0
  · rw [h0]; exact Nat.zero_le k
  · unfold bln
    rw [if_neg h0]
    exact (Nat.log2_lt h0).mpr h
theorem bln_sh {n k : Nat} (h : 2 ^ k ≤ n) : bln n = k + bln (n / 2 ^ k) := by
  have hp : 0 < 2 ^ k := Nat.two_pow_pos k
  have hq : 0 < n / 2 ^ k := Nat.div_pos h hp
  have hn : 0 < n := Nat.lt_of_lt_of_le hp h
  obtain ⟨j, hj⟩ : ∃ j, bln (n / 2 ^ k) = j + 1 := ⟨(n / 2 ^ k).log2, by unfold bln; rw [if_neg (by omega)]⟩
  obtain ⟨g1, g2⟩ := (bln_iff hq).mp hj
  rw [hj, show k + (j + 1) = (k + j) + 1 by omega]
  refine (bln_iff hn).mpr ⟨?_, ?_⟩
  · rw [Nat.pow_add, Nat.mul_comm]
    exact (Nat.le_div_iff_mul_le hp).mp g1
  · rw [show k + j + 1 = k + (j + 1) by omega, Nat.pow_add, Nat.mul_comm]
    exact (Nat.div_lt_iff_lt_mul hp).mp g2
/-! what is asked of a cell -/
def qF (kd : Nat) (lo hi v : Int64) : Bool := match kd with
  | 0 => decide (v = lo)
  | 1 => decide (v < lo)
  | 2 => decide (lo < v)
  | 3 => decide (v &&& lo = lo)
  | _ => decide (lo ≤ v) && decide (v ≤ hi)
def qB (b : Bool) : Int32 := if b then nI 1 else nI 0
theorem qB_t {b : Bool} (h : ¬ qB b = 0) : b = true := by cases b <;> first | exact absurd rfl h | rfl
theorem qB_f {b : Bool} (h : qB b = 0) : b = false := by cases b <;> first | rfl | exact absurd h (by decide)
theorem bln_4 {k : Nat} (h0 : 0 < k) (h : k < 4) : bln k = k / 2 + 1 := by
  rcases (show k = 1 ∨ k = 2 ∨ k = 3 by omega) with rfl | rfl | rfl <;> decide
theorem bln_32 {k : Nat} (h0 : 2147483648 ≤ k) (h : k < 4294967296) : bln k = 32 := (bln_iff (k := 31) (by omega)).mpr ⟨h0, h⟩
theorem nI_bv {k : Nat} (h : k < 4294967296) : (nI k).toBitVec.toNat = k := by
  show (BitVec.ofNat 32 k).toNat = k
  rw [BitVec.toNat_ofNat]
  exact Nat.mod_eq_of_lt h
theorem nI_int {k : Nat} (h : k < 4294967296) : (nI k).toInt = if 2 * k < 4294967296 then (k : Int) else (k : Int) - 4294967296 := by
  have e : (nI k).toInt = if 2 * (nI k).toBitVec.toNat < 2 ^ 32 then ((nI k).toBitVec.toNat : Int) else ((nI k).toBitVec.toNat : Int) - ((2 ^ 32 : Nat) : Int) := BitVec.toInt_eq_toNat_cond _
  rw [nI_bv h] at e
  exact e
theorem nI_sg {k : Nat} (h : k < 4294967296) : (0 : Int32) < nI k ↔ 0 < k ∧ k < 2147483648 := by
  rw [Int32.lt_iff_toInt_lt, nI_int h, show (0 : Int32).toInt = 0 from rfl]
  split <;> omega
theorem nI_z {k : Nat} (h : k < 4294967296) (e : nI k = 0) : k = 0 := by
  have h1 := nI_int h
  rw [e, show (0 : Int32).toInt = 0 from rfl] at h1
  split at h1 <;> omega
theorem nI_ng {k : Nat} (h : k < 4294967296) (h1 : ¬ (0 : Int32) < nI k) (h2 : ¬ nI k = 0) : 2147483648 ≤ k := by
  rw [nI_sg h] at h1
  rcases Nat.eq_zero_or_pos k with q | q
  · rw [q] at h2; exact absurd rfl h2
  · omega
theorem l2i_n (x : Int64) : x.toInt32 = nI (uN x) := by
  apply Int32.toBitVec_inj.mp
  show x.toBitVec.signExtend 32 = BitVec.ofNat 32 x.toBitVec.toNat
  apply BitVec.eq_of_getLsbD_eq
  intro i hi
  rw [BitVec.getLsbD_signExtend, BitVec.getLsbD_ofNat]
  simp [hi, show i < 64 by omega]
  rfl
theorem l2i_hi (x : Int64) : (x.toUInt64 >>> ((nI 32).toInt64.toUInt64 &&& Int64.toUInt64 63)).toInt64.toInt32 = nI (uN x / 4294967296) := by
  rw [l2i_n, uN_sk x (k := 32) (by omega)]
theorem nI_dec {a b : Nat} (h : b ≤ a) (c : Int32) (hc : c = - nI b) : nI a + c = nI (a - b) := by
  rw [hc, ← Int32.sub_eq_add_neg]
  exact pk_sub h
theorem nI_ushr {k j : Nat} (hk : k < 4294967296) (hj : j < 32) : ((nI k).toUInt32 >>> ((nI j).toUInt32 &&& Int32.toUInt32 31)).toInt32 = nI (k / 2 ^ j) := b_ext fun i hi => by
  rw [b_ushr _ hj, bt_nI _ hi, Nat.testBit_div_two_pow]
  by_cases h : j + i < 32
  · rw [bt_nI _ h, Nat.add_comm]
  · rw [b_big (by omega)]
    exact (Nat.testBit_lt_two_pow (Nat.lt_of_lt_of_le hk (Nat.pow_le_pow_right (n := 2) (by omega) (by omega : 32 ≤ i + j)))).symm
theorem upd_all {g : Nat → Int32} {i : Nat} {x : Int32} (h : ∀ j, j < i → g j = x) : ∀ j, j < i + 1 → upd g i x j = x := fun j hj => by
  by_cases q : j = i
  · rw [q]; exact pk_us
  · rw [pk_un q]; exact h j (by omega)
theorem rdV_end {B : Nat → Bool} {a w lf : Nat} {r v : Int64} (h : rdV B a (w - lf) r) (h0 : lf = 0) (hf : fld B a w v) (hv : ∀ t, w ≤ t → bL v t = false) : r = v := by
  subst h0
  exact rdV_fld h hf hv
end
section
/-! the different cells in rising order: rs, d of them; the place of v; the coming of a cell -/
def rSo (rs : Nat → Int64) (d : Nat) : Prop := ∀ i j, i < j → j < d → rs i < rs j
def rPl (rs : Nat → Int64) (d : Nat) (v : Int64) (t : Nat) : Prop := t ≤ d ∧ (∀ i, i < t → rs i < v) ∧ (∀ i, t ≤ i → i < d → ¬ rs i < v)
theorem ll_t {a b : Int64} : a < b ↔ a.toInt < b.toInt := Int64.lt_iff_toInt_lt
theorem ll_e {a b : Int64} (h : a.toInt = b.toInt) : a = b := Int64.toInt_inj.mp h
theorem ll_ne {a b : Int64} (h1 : ¬ a < b) (h2 : ¬ b < a) : a = b := ll_e (by rw [ll_t] at h1 h2; omega)
theorem ll_tr {a b c : Int64} (h1 : a < b) (h2 : b < c) : a < c := by rw [ll_t] at h1 h2 ⊢; omega
theorem ll_ir {a : Int64} : ¬ a < a := by rw [ll_t]; omega
theorem rPl_ex {rs : Nat → Int64} (v : Int64) : ∀ {d : Nat}, rSo rs d → ∃ t, rPl rs d v t := by
  intro d
  induction d with
  | zero => intro _; exact ⟨0, Nat.le_refl 0, fun i h => absurd h (by omega), fun i _ h => absurd h (by omega)⟩
  | succ d ih =>
    intro h
    obtain ⟨t, h1, h2, h3⟩ := ih (fun i j hij hj => h i j hij (by omega))
    by_cases ht : t < d
    · refine ⟨t, by omega, h2, fun i hi hd => ?_⟩
      by_cases hid : i < d
      · exact h3 i hi hid
      · intro hv
        have e : i = d := by omega
        subst e
        exact h3 t (Nat.le_refl t) ht (ll_tr (h t i ht (by omega)) hv)
    · by_cases hv : rs d < v
      · refine ⟨d + 1, Nat.le_refl _, fun i hi => ?_, fun i hi hd => absurd hi (by omega)⟩
        by_cases hid : i < d
        · exact h2 i (by omega)
        · have e : i = d := by omega
          rw [e]; exact hv
      · refine ⟨d, by omega, fun i hi => h2 i (by omega), fun i hi hd => ?_⟩
        have e : i = d := by omega
        rw [e]; exact hv
theorem rPl_un {rs : Nat → Int64} {d : Nat} {v : Int64} {t u : Nat} (h : rPl rs d v t) (g : rPl rs d v u) : t = u := by
  rcases Nat.lt_trichotomy t u with q | q | q
  · exact absurd (g.2.1 t q) (h.2.2 t (Nat.le_refl t) (by have := g.1; omega))
  · exact q
  · exact absurd (h.2.1 u q) (g.2.2 u (Nat.le_refl u) (by have := h.1; omega))
theorem rPl_hit {rs : Nat → Int64} {d : Nat} {v : Int64} {t i : Nat} (hs : rSo rs d) (h : rPl rs d v t) (hi : i < d) (e : rs i = v) : t = i := by
  rcases Nat.lt_trichotomy t i with q | q | q
  · exact absurd (by rw [← e]; exact hs t i q hi) (h.2.2 t (Nat.le_refl t) (by omega))
  · exact q
  · exact absurd (h.2.1 i q) (by rw [e]; exact ll_ir)
/-- v comes in at t -/
def rIns (rs : Nat → Int64) (d t : Nat) (v : Int64) : Nat → Int64 := vp_updL (va_cpy rs rs t (t + 1) (d - t)) t v
theorem rIns_lo {rs : Nat → Int64} {d t : Nat} {v : Int64} {k : Nat} (h : k < t) : rIns rs d t v k = rs k := by
  unfold rIns
  rw [pk_uLn (by omega)]
  exact if_neg (by omega)
theorem rIns_at {rs : Nat → Int64} {d t : Nat} {v : Int64} : rIns rs d t v t = v := pk_uLs
theorem rIns_hi {rs : Nat → Int64} {d t : Nat} {v : Int64} {k : Nat} (h : t < k) (hk : k ≤ d) : rIns rs d t v k = rs (k - 1) := by
  unfold rIns
  rw [pk_uLn (by omega)]
  have e : va_cpy rs rs t (t + 1) (d - t) k = rs (t + (k - (t + 1))) := if_pos (by omega)
  rw [e]
  congr 1
  omega
theorem rSo_ins {rs : Nat → Int64} {d t : Nat} {v : Int64} (hs : rSo rs d) (hp : rPl rs d v t) (hn : ¬ (t < d ∧ rs t = v)) : rSo (rIns rs d t v) (d + 1) := by
  intro i j hij hj
  obtain ⟨p1, p2, p3⟩ := hp
  have up : ∀ k, t ≤ k → k < d → v < rs k := fun k hk hd => by
    have h0 : v < rs t := by
      have h1 := p3 t (Nat.le_refl t) (by omega)
      by_cases h2 : v < rs t
      · exact h2
      · exact absurd ⟨by omega, ll_ne h1 h2⟩ hn
    by_cases e : k = t
    · rw [e]; exact h0
    · exact ll_tr h0 (hs t k (by omega) hd)
  rcases Nat.lt_trichotomy i t with q | q | q
  · rw [rIns_lo q]
    rcases Nat.lt_trichotomy j t with r | r | r
    · rw [rIns_lo r]; exact hs i j hij (by omega)
    · rw [r, rIns_at]; exact p2 i q
    · rw [rIns_hi r (by omega)]; exact ll_tr (p2 i q) (up (j - 1) (by omega) (by omega))
  · rw [q, rIns_at, rIns_hi (by omega) (by omega)]
    exact up (j - 1) (by omega) (by omega)
  · rw [rIns_hi q (by omega), rIns_hi (by omega) (by omega)]
    exact hs (i - 1) (j - 1) (by omega) (by omega)
/-- rs holds each of the first n cells of xs once, rising -/
def rInv (xs : Nat → Int64) (n : Nat) (rs : Nat → Int64) (d : Nat) : Prop := rSo rs d ∧ d ≤ n ∧ (∀ k, k < n → ∃ i, i < d ∧ rs i = xs k) ∧ (∀ i, i < d → ∃ k, k < n ∧ xs k = rs i) ∧ (0 < n → 0 < d)
theorem rInv_0 (xs rs : Nat → Int64) : rInv xs 0 rs 0 := ⟨fun i j h hj => absurd hj (by omega), Nat.le_refl 0, fun k h => absurd h (by omega), fun i h => absurd h (by omega), fun h => absurd h (by omega)⟩
theorem rInv_old {xs rs : Nat → Int64} {n d t : Nat} {v : Int64} (h : rInv xs n rs d) (ht : t < d) (e : rs t = v) : rInv (vp_updL xs n v) (n + 1) rs d := by
  obtain ⟨h1, h2, h3, h4, h5⟩ := h
  refine ⟨h1, by omega, fun k hk => ?_, fun i hi => ?_, fun _ => by omega⟩
  · by_cases q : k = n
    · exact ⟨t, ht, by rw [q, pk_uLs]; exact e⟩
    · obtain ⟨i, a, b⟩ := h3 k (by omega)
      exact ⟨i, a, by rw [pk_uLn q]; exact b⟩
  · obtain ⟨k, a, b⟩ := h4 i hi
    exact ⟨k, by omega, by rw [pk_uLn (by omega)]; exact b⟩
theorem rInv_new {xs rs : Nat → Int64} {n d t : Nat} {v : Int64} (h : rInv xs n rs d) (hp : rPl rs d v t) (hn : ¬ (t < d ∧ rs t = v)) : rInv (vp_updL xs n v) (n + 1) (rIns rs d t v) (d + 1) := by
  obtain ⟨h1, h2, h3, h4, h5⟩ := h
  refine ⟨rSo_ins h1 hp hn, by omega, fun k hk => ?_, fun i hi => ?_, fun _ => by omega⟩
  · by_cases q : k = n
    · exact ⟨t, by have := hp.1; omega, by rw [q, pk_uLs, rIns_at]⟩
    · obtain ⟨i, a, b⟩ := h3 k (by omega)
      rw [pk_uLn q]
      by_cases r : i < t
      · exact ⟨i, by omega, by rw [rIns_lo r]; exact b⟩
      · exact ⟨i + 1, by omega, by rw [rIns_hi (by omega) (by omega)]; exact b⟩
  · rcases Nat.lt_trichotomy i t with q | q | q
    · obtain ⟨k, a, b⟩ := h4 i (by have := hp.1; omega)
      exact ⟨k, by omega, by rw [pk_uLn (by omega), rIns_lo q]; exact b⟩
    · exact ⟨n, by omega, by rw [pk_uLs, q, rIns_at]⟩
    · obtain ⟨k, a, b⟩ := h4 (i - 1) (by omega)
      exact ⟨k, by omega, by rw [pk_uLn (by omega), rIns_hi q (by omega)]; exact b⟩
/-- one turn of the search by halves: t is the place, 2 ^ k the width of what is left -/
theorem rBs_up {rs : Nat → Int64} {d : Nat} {v : Int64} {t p j : Nat} (h : rPl rs d v t) (h1 : p + j ≤ d) (hj : 0 < j) (hv : rs (p + j - 1) < v) : p + j ≤ t := by
  by_cases q : p + j ≤ t
  · exact q
  · exact absurd hv (h.2.2 (p + j - 1) (by omega) (by omega))
theorem rBs_dn {rs : Nat → Int64} {d : Nat} {v : Int64} {t p j : Nat} (h : rPl rs d v t) (hj : 0 < j) (hv : d < p + j ∨ ¬ rs (p + j - 1) < v) : t < p + j := by
  rcases hv with q | q
  · have := h.1; omega
  · by_cases r : t < p + j
    · exact r
    · exact absurd (h.2.1 (p + j - 1) (by omega)) q
/-! runs, the least and the greatest, steps -/
def rRn (xs : Nat → Int64) : Nat → Nat
  | 0 => 0
  | 1 => 1
  | n + 2 => rRn xs (n + 1) + (if xs (n + 1) = xs n then 0 else 1)
def lMin (a b : Int64) : Int64 := if b < a then b else a
def lMax (a b : Int64) : Int64 := if b < a then a else b
def rLo (xs : Nat → Int64) : Nat → Int64
  | 0 => 0
  | 1 => xs 0
  | n + 2 => lMin (rLo xs (n + 1)) (xs (n + 1))
def rHi (xs : Nat → Int64) : Nat → Int64
  | 0 => 0
  | 1 => xs 0
  | n + 2 => lMax (rHi xs (n + 1)) (xs (n + 1))
def sLo (xs : Nat → Int64) : Nat → Int64
  | 0 => 0
  | 1 => 0
  | 2 => xs 1 - xs 0
  | n + 3 => lMin (sLo xs (n + 2)) (xs (n + 2) - xs (n + 1))
def sHi (xs : Nat → Int64) : Nat → Int64
  | 0 => 0
  | 1 => 0
  | 2 => xs 1 - xs 0
  | n + 3 => lMax (sHi xs (n + 2)) (xs (n + 2) - xs (n + 1))
theorem rRn_c {xs ys : Nat → Int64} : ∀ (n : Nat), (∀ k, k < n → xs k = ys k) → rRn xs n = rRn ys n
  | 0, _ => rfl
  | 1, _ => rfl
  | n + 2, h => by
    show rRn xs (n + 1) + _ = rRn ys (n + 1) + _
    rw [rRn_c (n + 1) (fun k hk => h k (by omega)), h (n + 1) (by omega), h n (by omega)]
theorem rLo_c {xs ys : Nat → Int64} : ∀ (n : Nat), (∀ k, k < n → xs k = ys k) → rLo xs n = rLo ys n
  | 0, _ => rfl
  | 1, h => h 0 (by omega)
  | n + 2, h => by
    show lMin (rLo xs (n + 1)) _ = lMin (rLo ys (n + 1)) _
    rw [rLo_c (n + 1) (fun k hk => h k (by omega)), h (n + 1) (by omega)]
theorem rHi_c {xs ys : Nat → Int64} : ∀ (n : Nat), (∀ k, k < n → xs k = ys k) → rHi xs n = rHi ys n
  | 0, _ => rfl
  | 1, h => h 0 (by omega)
  | n + 2, h => by
    show lMax (rHi xs (n + 1)) _ = lMax (rHi ys (n + 1)) _
    rw [rHi_c (n + 1) (fun k hk => h k (by omega)), h (n + 1) (by omega)]
theorem sLo_c {xs ys : Nat → Int64} : ∀ (n : Nat), (∀ k, k < n → xs k = ys k) → sLo xs n = sLo ys n
  | 0, _ => rfl
  | 1, _ => rfl
  | 2, h => by
    show xs 1 - xs 0 = ys 1 - ys 0
    rw [h 1 (by omega), h 0 (by omega)]
  | n + 3, h => by
    show lMin (sLo xs (n + 2)) _ = lMin (sLo ys (n + 2)) _
    rw [sLo_c (n + 2) (fun k hk => h k (by omega)), h (n + 2) (by omega), h (n + 1) (by omega)]
theorem sHi_c {xs ys : Nat → Int64} : ∀ (n : Nat), (∀ k, k < n → xs k = ys k) → sHi xs n = sHi ys n
  | 0, _ => rfl
  | 1, _ => rfl
  | 2, h => by
    show xs 1 - xs 0 = ys 1 - ys 0
    rw [h 1 (by omega), h 0 (by omega)]
  | n + 3, h => by
    show lMax (sHi xs (n + 2)) _ = lMax (sHi ys (n + 2)) _
    rw [sHi_c (n + 2) (fun k hk => h k (by omega)), h (n + 2) (by omega), h (n + 1) (by omega)]
theorem uL_lo {xs : Nat → Int64} {n : Nat} {v : Int64} : ∀ k, k < n → vp_updL xs n v k = xs k := fun k hk => pk_uLn (by omega)
theorem l_sub0 {a b : Int64} : a - b = 0 ↔ a = b := by
  constructor
  · intro h
    have h2 := Int64.sub_add_cancel a b
    rw [h, Int64.zero_add] at h2
    exact h2.symm
  · intro h
    rw [h]; exact Int64.sub_self b
theorem rRn_add {xs : Nat → Int64} {n : Nat} {v : Int64} (h : 0 < n) : rRn (vp_updL xs n v) (n + 1) = rRn xs n + (if v - xs (n - 1) = 0 then 0 else 1) := by
  obtain ⟨m, rfl⟩ : ∃ m, n = m + 1 := ⟨n - 1, by omega⟩
  show rRn (vp_updL xs (m + 1) v) (m + 1) + (if vp_updL xs (m + 1) v (m + 1) = vp_updL xs (m + 1) v m then 0 else 1) = _
  rw [rRn_c (m + 1) uL_lo, pk_uLs, pk_uLn (by omega), show m + 1 - 1 = m by omega]
  simp only [l_sub0]
theorem rLo_add {xs : Nat → Int64} {n : Nat} {v : Int64} (h : 0 < n) : rLo (vp_updL xs n v) (n + 1) = lMin (rLo xs n) v := by
  obtain ⟨m, rfl⟩ : ∃ m, n = m + 1 := ⟨n - 1, by omega⟩
  show lMin (rLo (vp_updL xs (m + 1) v) (m + 1)) (vp_updL xs (m + 1) v (m + 1)) = _
  rw [rLo_c (m + 1) uL_lo, pk_uLs]
theorem rHi_add {xs : Nat → Int64} {n : Nat} {v : Int64} (h : 0 < n) : rHi (vp_updL xs n v) (n + 1) = lMax (rHi xs n) v := by
  obtain ⟨m, rfl⟩ : ∃ m, n = m + 1 := ⟨n - 1, by omega⟩
  show lMax (rHi (vp_updL xs (m + 1) v) (m + 1)) (vp_updL xs (m + 1) v (m + 1)) = _
  rw [rHi_c (m + 1) uL_lo, pk_uLs]
theorem sLo_add {xs : Nat → Int64} {n : Nat} {v : Int64} (h : 0 < n) : sLo (vp_updL xs n v) (n + 1) = if n = 1 then v - xs (n - 1) else lMin (sLo xs n) (v - xs (n - 1)) := by
  by_cases h1 : n = 1
  · subst h1
    show vp_updL xs 1 v 1 - vp_updL xs 1 v 0 = _
    rw [pk_uLs, pk_uLn (by omega), if_pos rfl]
  · obtain ⟨m, rfl⟩ : ∃ m, n = m + 2 := ⟨n - 2, by omega⟩
    show lMin (sLo (vp_updL xs (m + 2) v) (m + 2)) (vp_updL xs (m + 2) v (m + 2) - vp_updL xs (m + 2) v (m + 1)) = _
    rw [sLo_c (m + 2) uL_lo, pk_uLs, pk_uLn (by omega), if_neg h1, show m + 2 - 1 = m + 1 by omega]
theorem sHi_add {xs : Nat → Int64} {n : Nat} {v : Int64} (h : 0 < n) : sHi (vp_updL xs n v) (n + 1) = if n = 1 then v - xs (n - 1) else lMax (sHi xs n) (v - xs (n - 1)) := by
  by_cases h1 : n = 1
  · subst h1
    show vp_updL xs 1 v 1 - vp_updL xs 1 v 0 = _
    rw [pk_uLs, pk_uLn (by omega), if_pos rfl]
  · obtain ⟨m, rfl⟩ : ∃ m, n = m + 2 := ⟨n - 2, by omega⟩
    show lMax (sHi (vp_updL xs (m + 2) v) (m + 2)) (vp_updL xs (m + 2) v (m + 2) - vp_updL xs (m + 2) v (m + 1)) = _
    rw [sHi_c (m + 2) uL_lo, pk_uLs, pk_uLn (by omega), if_neg h1, show m + 2 - 1 = m + 1 by omega]
theorem r_one {xs : Nat → Int64} {v : Int64} : rRn (vp_updL xs 0 v) 1 = 1 ∧ rLo (vp_updL xs 0 v) 1 = v ∧ rHi (vp_updL xs 0 v) 1 = v ∧ sLo (vp_updL xs 0 v) 1 = 0 ∧ sHi (vp_updL xs 0 v) 1 = 0 := ⟨rfl, pk_uLs, pk_uLs, rfl, rfl⟩
theorem rRn_le {xs : Nat → Int64} : ∀ n, rRn xs n ≤ n
  | 0 => Nat.le_refl 0
  | 1 => Nat.le_refl 1
  | n + 2 => by
    show rRn xs (n + 1) + _ ≤ _
    have h := rRn_le (xs := xs) (n + 1)
    split <;> omega
/-- what the fields of a row say of its cells -/
def rAll (xs : Nat → Int64) (n d r : Nat) (lo hi ls hs : Int64) (rs : Nat → Int64) : Prop := n ≤ 1024 ∧ rInv xs n rs d ∧ r = rRn xs n ∧ (0 < n → lo = rLo xs n ∧ hi = rHi xs n ∧ ls = sLo xs n ∧ hs = sHi xs n)
def isPw (j : Nat) : Prop := j = 0 ∨ ∃ z, j = 2 ^ z
theorem pw_half {j : Nat} (h : isPw j) (h0 : 0 < j) : (j = 1 ∨ j = 2 * (j / 2)) ∧ isPw (j / 2) := by
  rcases h with h | ⟨z, h⟩
  · omega
  · rcases z with _ | z
    · have e : j = 1 := h
      exact ⟨Or.inl e, Or.inl (by omega)⟩
    · have e : j = 2 * 2 ^ z := by rw [h, Nat.pow_succ]; omega
      exact ⟨Or.inr (by omega), Or.inr ⟨z, by omega⟩⟩
theorem rAll_1 {xs rs rs2 : Nat → Int64} {n d rn d2 : Nat} {lo hi sl sh v : Int64} (h : rAll xs n d rn lo hi sl sh rs) (hn : n < 1024) (h0 : n = 0) (hg : rInv (vp_updL xs n v) (n + 1) rs2 d2) : rAll (vp_updL xs n v) (n + 1) d2 1 v v 0 0 rs2 := by
  subst h0
  exact ⟨by omega, hg, rfl, fun _ => ⟨pk_uLs.symm, pk_uLs.symm, rfl, rfl⟩⟩
theorem rAll_n {xs rs rs2 : Nat → Int64} {n d rn d2 rn2 : Nat} {lo hi sl sh sl2 sh2 v : Int64} (h : rAll xs n d rn lo hi sl sh rs) (hn : n < 1024) (h0 : ¬ n = 0) (f1 : rn2 = rn + (if v - xs (n - 1) = 0 then 0 else 1)) (f2 : sl2 = if n = 1 then v - xs (n - 1) else lMin sl (v - xs (n - 1))) (f3 : sh2 = if n = 1 then v - xs (n - 1) else lMax sh (v - xs (n - 1))) (hg : rInv (vp_updL xs n v) (n + 1) rs2 d2) : rAll (vp_updL xs n v) (n + 1) d2 rn2 (lMin lo v) (lMax hi v) sl2 sh2 rs2 := by
  obtain ⟨h1, h2, h3, h4⟩ := h
  obtain ⟨e1, e2, e3, e4⟩ := h4 (by omega)
  refine ⟨by omega, hg, ?_, fun _ => ⟨?_, ?_, ?_, ?_⟩⟩
  · rw [f1, h3, rRn_add (by omega)]
  · rw [rLo_add (by omega), ← e1]
  · rw [rHi_add (by omega), ← e2]
  · rw [sLo_add (by omega), ← e3, f2]
  · rw [sHi_add (by omega), ← e4, f3]
end
section
/-! what fits into w bits; least and greatest; what the forms hold -/
theorem bL_uN (x : Int64) (t : Nat) : bL x t = (uN x).testBit t := rfl
theorem bL_small {x : Int64} {w : Nat} (h : uN x < 2 ^ w) : ∀ t, w ≤ t → bL x t = false := fun t ht => by
  rw [bL_uN]
  exact Nat.testBit_lt_two_pow (Nat.lt_of_lt_of_le h (Nat.pow_le_pow_right (n := 2) (by omega) ht))
theorem bL_64 {x : Int64} : ∀ t, 64 ≤ t → bL x t = false := fun t ht => bL_big ht
theorem uN_lN {n : Nat} (h : n < 18446744073709551616) : uN (lN n) = n := by
  show (BitVec.ofNat 64 n).toNat = n
  rw [BitVec.toNat_ofNat]
  exact Nat.mod_eq_of_lt h
theorem uN_sub (x a : Int64) : uN (x - a) = (18446744073709551616 - uN a + uN x) % 18446744073709551616 := UInt64.toNat_sub x.toUInt64 a.toUInt64
theorem ll_le {a b : Int64} : a ≤ b ↔ a.toInt ≤ b.toInt := Int64.le_iff_toInt_le
theorem uN_subI {x a : Int64} (h : a ≤ x) : (uN (x - a) : Int) = x.toInt - a.toInt := by
  rw [ll_le] at h
  have h1 := uN_lt x
  have h2 := uN_lt a
  rw [uN_sub]
  rw [uN_int x, uN_int a] at h
  rw [uN_int x, uN_int a]
  split at h <;> split at h <;> simp_all <;> omega
theorem uN_mono {a x b : Int64} (h1 : a ≤ x) (h2 : x ≤ b) : uN (x - a) ≤ uN (b - a) := by
  have e1 := uN_subI h1
  have e2 := uN_subI (Int64.le_trans h1 h2)
  rw [ll_le] at h2
  omega
theorem lMin_l (a b : Int64) : lMin a b ≤ a := by
  unfold lMin
  split
  · rename_i h; exact Int64.le_of_lt h
  · exact Int64.le_refl a
theorem lMin_r (a b : Int64) : lMin a b ≤ b := by
  unfold lMin
  split
  · exact Int64.le_refl b
  · rename_i h; exact Int64.not_lt.mp h
theorem lMax_l (a b : Int64) : a ≤ lMax a b := by
  unfold lMax
  split
  · exact Int64.le_refl a
  · rename_i h; exact Int64.not_lt.mp h
theorem lMax_r (a b : Int64) : b ≤ lMax a b := by
  unfold lMax
  split
  · rename_i h; exact Int64.le_of_lt h
  · exact Int64.le_refl b
theorem rLo_le {xs : Nat → Int64} : ∀ (n k : Nat), k < n → rLo xs n ≤ xs k
  | 0, k, h => absurd h (by omega)
  | 1, k, h => by
    have e : k = 0 := by omega
    rw [e]; exact Int64.le_refl _
  | n + 2, k, h => by
    show lMin (rLo xs (n + 1)) (xs (n + 1)) ≤ _
    by_cases e : k = n + 1
    · rw [e]; exact lMin_r _ _
    · exact Int64.le_trans (lMin_l _ _) (rLo_le (n + 1) k (by omega))
theorem rHi_ge {xs : Nat → Int64} : ∀ (n k : Nat), k < n → xs k ≤ rHi xs n
  | 0, k, h => absurd h (by omega)
  | 1, k, h => by
    have e : k = 0 := by omega
    rw [e]; exact Int64.le_refl _
  | n + 2, k, h => by
    show _ ≤ lMax (rHi xs (n + 1)) (xs (n + 1))
    by_cases e : k = n + 1
    · rw [e]; exact lMax_r _ _
    · exact Int64.le_trans (rHi_ge (n + 1) k (by omega)) (lMax_l _ _)
theorem sLo_le {xs : Nat → Int64} : ∀ (n k : Nat), k + 1 < n → sLo xs n ≤ xs (k + 1) - xs k
  | 0, k, h => absurd h (by omega)
  | 1, k, h => absurd h (by omega)
  | 2, k, h => by
    have e : k = 0 := by omega
    rw [e]; exact Int64.le_refl _
  | n + 3, k, h => by
    show lMin (sLo xs (n + 2)) (xs (n + 2) - xs (n + 1)) ≤ _
    by_cases e : k = n + 1
    · rw [e]; exact lMin_r _ _
    · exact Int64.le_trans (lMin_l _ _) (sLo_le (n + 2) k (by omega))
theorem sHi_ge {xs : Nat → Int64} : ∀ (n k : Nat), k + 1 < n → xs (k + 1) - xs k ≤ sHi xs n
  | 0, k, h => absurd h (by omega)
  | 1, k, h => absurd h (by omega)
  | 2, k, h => by
    have e : k = 0 := by omega
    rw [e]; exact Int64.le_refl _
  | n + 3, k, h => by
    show _ ≤ lMax (sHi xs (n + 2)) (xs (n + 2) - xs (n + 1))
    by_cases e : k = n + 1
    · rw [e]; exact lMax_r _ _
    · exact Int64.le_trans (sHi_ge (n + 2) k (by omega)) (lMax_l _ _)
/-- the widths -/
def wP (xs : Nat → Int64) (n : Nat) : Nat := bln (uN (rHi xs n - rLo xs n))
def wS (xs : Nat → Int64) (n : Nat) : Nat := bln (uN (sHi xs n - sLo xs n))
theorem bln64 (x : Int64) : bln (uN x) ≤ 64 := bln_le (k := 64) (uN_lt x)
theorem wP_le (xs : Nat → Int64) (n : Nat) : wP xs n ≤ 64 := bln64 _
theorem wS_le (xs : Nat → Int64) (n : Nat) : wS xs n ≤ 64 := bln64 _
theorem wP_fits {xs : Nat → Int64} {n k : Nat} (h : k < n) : uN (xs k - rLo xs n) < 2 ^ wP xs n := Nat.lt_of_le_of_lt (uN_mono (rLo_le n k h) (rHi_ge n k h)) (bln_lt _)
theorem wS_fits {xs : Nat → Int64} {n k : Nat} (h : k + 1 < n) : uN (xs (k + 1) - xs k - sLo xs n) < 2 ^ wS xs n := Nat.lt_of_le_of_lt (uN_mono (sLo_le n k h) (sHi_ge n k h)) (bln_lt _)
theorem l_back (x a : Int64) : a + (x - a) = x := by rw [Int64.add_comm]; exact Int64.sub_add_cancel x a
/-- how often, and the sum -/
def nC (P : Int64 → Bool) (xs : Nat → Int64) : Nat → Nat
  | 0 => 0
  | n + 1 => nC P xs n + (if P (xs n) then 1 else 0)
def nS (P : Int64 → Bool) (xs : Nat → Int64) : Nat → Int64
  | 0 => 0
  | n + 1 => nS P xs n + (if P (xs n) then xs n else 0)
/-! runs: sb m is where run m begins, k of them -/
def nUp (f : Nat → Nat) (k x : Nat) : Nat → Nat := fun j => if j = k then x else f j
theorem nUp_s {f : Nat → Nat} {k x : Nat} : nUp f k x k = x := if_pos rfl
theorem nUp_n {f : Nat → Nat} {k x j : Nat} (h : j ≠ k) : nUp f k x j = f j := if_neg h
def rDc (xs : Nat → Int64) (sb : Nat → Nat) (k : Nat) : Prop := sb 0 = 0 ∧ (∀ m, m < k → sb m < sb (m + 1)) ∧ (∀ m, m < k → ∀ j, sb m ≤ j → j < sb (m + 1) → xs j = xs (sb m)) ∧ (∀ m, m + 1 < k → ¬ xs (sb (m + 1)) = xs (sb m))
theorem rDc_0 (xs : Nat → Int64) : rDc xs (fun _ => 0) 0 := ⟨rfl, fun m h => absurd h (by omega), fun m h => absurd h (by omega), fun m h => absurd h (by omega)⟩
theorem rDc_add {xs : Nat → Int64} {sb : Nat → Nat} {k st i : Nat} (h : rDc xs sb k) (hs : sb k = st) (h1 : st < i) (h2 : ∀ j, st ≤ j → j < i → xs j = xs st) (h3 : 0 < k → ¬ xs st = xs (sb (k - 1))) : rDc xs (nUp sb (k + 1) i) (k + 1) := by
  obtain ⟨a, b, c, d⟩ := h
  refine ⟨by rw [nUp_n (by omega)]; exact a, fun m hm => ?_, fun m hm j hj1 hj2 => ?_, fun m hm => ?_⟩
  · by_cases e : m = k
    · subst e
      rw [nUp_s, nUp_n (by omega), hs]; exact h1
    · rw [nUp_n (by omega), nUp_n (by omega)]; exact b m (by omega)
  · by_cases e : m = k
    · subst e
      rw [nUp_n (by omega), hs] at hj1
      rw [nUp_s] at hj2
      rw [nUp_n (by omega), hs]; exact h2 j hj1 hj2
    · rw [nUp_n (by omega)] at hj1
      rw [nUp_n (by omega)] at hj2
      rw [nUp_n (by omega)]; exact c m (by omega) j hj1 hj2
  · rw [nUp_n (by omega), nUp_n (by omega)]
    by_cases e : m + 1 = k
    · have h4 := h3 (by omega)
      rw [show k - 1 = m by omega] at h4
      rw [e, hs]; exact h4
    · exact d m (by omega)
theorem rRn_same {xs : Nat → Int64} {a : Nat} : ∀ (c : Nat), (∀ j, a ≤ j → j < a + 1 + c → xs j = xs a) → rRn xs (a + 1 + c) = rRn xs (a + 1)
  | 0, _ => rfl
  | c + 1, h => by
    have e : a + 1 + (c + 1) = (a + c) + 2 := by omega
    rw [e]
    show rRn xs (a + c + 1) + (if xs (a + c + 1) = xs (a + c) then 0 else 1) = _
    rw [if_pos (by rw [h (a + c + 1) (by omega) (by omega), h (a + c) (by omega) (by omega)]), show a + c + 1 = a + 1 + c by omega, rRn_same c (fun j h1 h2 => h j h1 (by omega))]
    omega
theorem rDc_n {xs : Nat → Int64} {sb : Nat → Nat} : ∀ (k : Nat), rDc xs sb k → rRn xs (sb k) = k := by
  intro k
  induction k with
  | zero => intro h; rw [h.1]; rfl
  | succ k ih =>
    intro h
    obtain ⟨a, b, c, d⟩ := h
    have h0 := ih ⟨a, fun m hm => b m (by omega), fun m hm => c m (by omega), fun m hm => d m (by omega)⟩
    have h1 := b k (by omega)
    have h2 := rRn_same (xs := xs) (a := sb k) (sb (k + 1) - sb k - 1) (fun j q1 q2 => c k (by omega) j q1 (by omega))
    rw [show sb k + 1 + (sb (k + 1) - sb k - 1) = sb (k + 1) by omega] at h2
    rw [h2]
    rcases k with _ | k
    · rw [a]; rfl
    · have h3 := b k (by omega)
      have h4 := d k (by omega)
      have h5 := c k (by omega) (sb (k + 1) - 1) (by omega) (by omega)
      obtain ⟨z, hz⟩ : ∃ z, sb (k + 1) = z + 1 := ⟨sb (k + 1) - 1, by omega⟩
      rw [hz] at h0 h4 h5 ⊢
      rw [show z + 1 - 1 = z by omega] at h5
      show rRn xs (z + 1) + (if xs (z + 1) = xs z then 0 else 1) = _
      rw [if_neg (by rw [h5]; exact h4), h0]
/-! lists: each different cell once, times how often -/
def nO (pl : Nat → Nat) : Nat → Nat → Nat
  | 0, _ => 0
  | n + 1, j => nO pl n j + (if pl n = j then 1 else 0)
def sN (g : Nat → Nat) : Nat → Nat
  | 0 => 0
  | d + 1 => sN g d + g d
def sL (g : Nat → Int64) : Nat → Int64
  | 0 => 0
  | d + 1 => sL g d + g d
theorem sN_c {f g : Nat → Nat} : ∀ d, (∀ j, j < d → f j = g j) → sN f d = sN g d
  | 0, _ => rfl
  | d + 1, h => by
    show sN f d + f d = sN g d + g d
    rw [sN_c d (fun j hj => h j (by omega)), h d (by omega)]
theorem sL_c {f g : Nat → Int64} : ∀ d, (∀ j, j < d → f j = g j) → sL f d = sL g d
  | 0, _ => rfl
  | d + 1, h => by
    show sL f d + f d = sL g d + g d
    rw [sL_c d (fun j hj => h j (by omega)), h d (by omega)]
theorem sN_at {f g : Nat → Nat} {k c : Nat} : ∀ d, (∀ j, j < d → ¬ j = k → f j = g j) → (k < d → f k = g k + c) → sN f d = sN g d + (if k < d then c else 0)
  | 0, _, _ => rfl
  | d + 1, h, hk => by
    show sN f d + f d = sN g d + g d + _
    rw [sN_at (f := f) (g := g) (k := k) (c := c) d (fun j hj => h j (by omega)) (fun q => hk (by omega))]
    by_cases e : d = k
    · subst e
      rw [hk (by omega), if_neg (by omega), if_pos (by omega)]
      omega
    · rw [h d (by omega) e]
      by_cases q : k < d
      · rw [if_pos q, if_pos (by omega)]; omega
      · rw [if_neg q, if_neg (by omega)]; omega
theorem sL_at {f g : Nat → Int64} {k : Nat} {c : Int64} : ∀ d, (∀ j, j < d → ¬ j = k → f j = g j) → (k < d → f k = g k + c) → sL f d = sL g d + (if k < d then c else 0)
  | 0, _, _ => by rw [if_neg (by omega)]; exact (Int64.add_zero _).symm
  | d + 1, h, hk => by
    show sL f d + f d = sL g d + g d + _
    rw [sL_at (f := f) (g := g) (k := k) (c := c) d (fun j hj => h j (by omega)) (fun q => hk (by omega))]
    by_cases e : d = k
    · subst e
      rw [hk (by omega), if_neg (by omega), if_pos (by omega), Int64.add_zero, Int64.add_assoc]
    · rw [h d (by omega) e]
      by_cases q : k < d
      · rw [if_pos q, if_pos (by omega), Int64.add_assoc, Int64.add_comm c, ← Int64.add_assoc]
      · rw [if_neg q, if_neg (by omega), Int64.add_zero, Int64.add_zero]
/-- the cells that P takes, counted by the different ones -/
theorem nC_list {P : Int64 → Bool} {xs rs : Nat → Int64} {pl : Nat → Nat} {d : Nat} : ∀ n, (∀ i, i < n → pl i < d ∧ rs (pl i) = xs i) → sN (fun p => if P (rs p) then nO pl n p else 0) d = nC P xs n
  | 0, _ => by
    have e : ∀ d, sN (fun p => if P (rs p) then nO pl 0 p else 0) d = 0 := by
      intro d
      induction d with
      | zero => rfl
      | succ d ih =>
        show sN _ d + (if P (rs d) then 0 else 0) = 0
        rw [ih]; split <;> rfl
    exact e d
  | n + 1, h => by
    obtain ⟨h1, h2⟩ := h n (by omega)
    rw [sN_at (f := fun p => if P (rs p) then nO pl (n + 1) p else 0) (g := fun p => if P (rs p) then nO pl n p else 0) (k := pl n) (c := if P (xs n) then 1 else 0) d
      (fun j hj hn => by
        show (if P (rs j) then nO pl n j + (if pl n = j then 1 else 0) else 0) = _
        rw [if_neg (c := pl n = j) (fun q => hn q.symm), Nat.add_zero])
      (fun _ => by
        show (if P (rs (pl n)) then nO pl n (pl n) + (if pl n = pl n then 1 else 0) else 0) = (if P (rs (pl n)) then nO pl n (pl n) else 0) + _
        rw [if_pos rfl, h2]
        by_cases q : P (xs n) = true
        · rw [if_pos q, if_pos q, if_pos q]
        · rw [if_neg q, if_neg q, if_neg q]), if_pos h1, nC_list n (fun i hi => h i (by omega))]
    rfl
theorem l_m1 (x : Int64) (k : Nat) : x * lN (k + 1) = x * lN k + x := by
  rw [← lN_1, Int64.mul_add, Int64.mul_one]
theorem nS_list {P : Int64 → Bool} {xs rs : Nat → Int64} {pl : Nat → Nat} {d : Nat} : ∀ n, (∀ i, i < n → pl i < d ∧ rs (pl i) = xs i) → sL (fun p => if P (rs p) then rs p * lN (nO pl n p) else 0) d = nS P xs n
  | 0, _ => by
    have e : ∀ d, sL (fun p => if P (rs p) then rs p * lN (nO pl 0 p) else 0) d = 0 := by
      intro d
      induction d with
      | zero => rfl
      | succ d ih =>
        show sL _ d + (if P (rs d) then rs d * lN 0 else 0) = 0
        rw [ih, show lN 0 = 0 from rfl, Int64.mul_zero]
        split <;> rfl
    exact e d
  | n + 1, h => by
    obtain ⟨h1, h2⟩ := h n (by omega)
    rw [sL_at (f := fun p => if P (rs p) then rs p * lN (nO pl (n + 1) p) else 0) (g := fun p => if P (rs p) then rs p * lN (nO pl n p) else 0) (k := pl n) (c := if P (xs n) then xs n else 0) d
      (fun j hj hn => by
        show (if P (rs j) then rs j * lN (nO pl n j + (if pl n = j then 1 else 0)) else 0) = _
        rw [if_neg (c := pl n = j) (fun q => hn q.symm), Nat.add_zero])
      (fun _ => by
        show (if P (rs (pl n)) then rs (pl n) * lN (nO pl n (pl n) + (if pl n = pl n then 1 else 0)) else 0) = (if P (rs (pl n)) then rs (pl n) * lN (nO pl n (pl n)) else 0) + _
        rw [if_pos rfl, h2]
        by_cases q : P (xs n) = true
        · rw [if_pos q, if_pos q, if_pos q, l_m1]
        · rw [if_neg q, if_neg q, if_neg q]; rfl), if_pos h1, nS_list n (fun i hi => h i (by omega))]
    rfl
/-- .. and by the runs -/
theorem nC_same {P : Int64 → Bool} {xs : Nat → Int64} {a : Nat} {v : Int64} : ∀ c, (∀ j, a ≤ j → j < a + c → xs j = v) → nC P xs (a + c) = nC P xs a + (if P v then c else 0)
  | 0, _ => by
    show nC P xs a = _
    split <;> rfl
  | c + 1, h => by
    show nC P xs (a + c) + (if P (xs (a + c)) then 1 else 0) = _
    rw [nC_same c (fun j h1 h2 => h j h1 (by omega)), h (a + c) (by omega) (by omega)]
    by_cases q : P v = true
    · rw [if_pos q, if_pos q, if_pos q]; omega
    · rw [if_neg q, if_neg q, if_neg q]
theorem nS_same {P : Int64 → Bool} {xs : Nat → Int64} {a : Nat} {v : Int64} : ∀ c, (∀ j, a ≤ j → j < a + c → xs j = v) → nS P xs (a + c) = nS P xs a + (if P v then v * lN c else 0)
  | 0, _ => by
    show nS P xs a = _
    rw [show lN 0 = 0 from rfl, Int64.mul_zero]
    split <;> exact (Int64.add_zero _).symm
  | c + 1, h => by
    show nS P xs (a + c) + (if P (xs (a + c)) then xs (a + c) else 0) = _
    rw [nS_same c (fun j h1 h2 => h j h1 (by omega)), h (a + c) (by omega) (by omega)]
    by_cases q : P v = true
    · rw [if_pos q, if_pos q, if_pos q, l_m1, Int64.add_assoc]
    · rw [if_neg q, if_neg q, if_neg q, Int64.add_zero]
end
section
theorem fm_of {α β : Type} {f : α → Option β} : ∀ {l : List α} {w : List β}, l.map f = w.map some → l.filterMap f = w
  | [], [], _ => rfl
  | [], _ :: _, h => nomatch h
  | _ :: _, [], h => nomatch h
  | a :: l, b :: w, h => by
    obtain ⟨h1, h2⟩ := List.cons.inj h
    rw [List.filterMap_cons, h1, fm_of h2]
/-! words that no list of a method may hold: links inside the nest, abstract methods, casts, the array class of forms -/
def cfNs : List Cond := cfN1.map (fun q => Cond.methodLinkNest q.1 q.2.1 q.2.2.1 q.2.2.2) ++ (cfN2.map (fun x => Cond.declares x) ++ cfN3.map (fun q => Cond.castable q.1 q.2))
def cfWd (s : State) : Prop := (∀ w ∈ cfNs, va_Nw w s) ∧ va_AO cfFm s
theorem cfNs_on : ∀ w ∈ cfNs, w.onTables = true := fun w hw => by
  rcases List.mem_append.mp hw with h | h
  · obtain ⟨q, -, rfl⟩ := List.mem_map.mp h; rfl
  · rcases List.mem_append.mp h with h | h
    · obtain ⟨q, -, rfl⟩ := List.mem_map.mp h; rfl
    · obtain ⟨q, -, rfl⟩ := List.mem_map.mp h; rfl
theorem cfWd.same {u U : State} (h : u.vm = U.vm) (hz : cfWd u) : cfWd U := ⟨fun w hw => va_Nw.same (cfNs_on w hw) h (hz.1 w hw), va_AO.moved (by rw [h]; exact Vm.Alike.refl U.vm) hz.2⟩
theorem cfWd.warm {s U : State} (hW : s.WarmedH U.vm) (hz : cfWd s) : cfWd U := ⟨fun w hw => by
  have h9 := hz.1 w hw
  rcases List.mem_append.mp hw with h | h
  · obtain ⟨q, -, rfl⟩ := List.mem_map.mp h; exact va_Nw.warmM hW h9
  · rcases List.mem_append.mp h with h | h
    · obtain ⟨q, -, rfl⟩ := List.mem_map.mp h; exact va_Nw.warmD hW h9
    · obtain ⟨q, -, rfl⟩ := List.mem_map.mp h; exact va_Nw.warmC hW h9, va_AO.moved hW.alike hz.2⟩
theorem cfWd.nest {s : State} (h : cfWd s) {own : String} {i : Nat} {y : MethodName} {host : String} (k : Nat) (hk : cfN1[k]? = some (own, i, y, host)) : va_Nw (.methodLinkNest own i y host) s := h.1 _ (List.mem_append_left _ (List.mem_map.mpr ⟨_, List.mem_of_getElem? hk, rfl⟩))
theorem cfWd.decl {s : State} (h : cfWd s) {x : MethodName} (k : Nat) (hk : cfN2[k]? = some x) : va_Nw (.declares x) s := h.1 _ (List.mem_append_right _ (List.mem_append_left _ (List.mem_map.mpr ⟨_, List.mem_of_getElem? hk, rfl⟩)))
theorem cfWd.cast {s : State} (h : cfWd s) {C E : String} (k : Nat) (hk : cfN3[k]? = some (C, E)) : va_Nw (.castable C E) s := h.1 _ (List.mem_append_right _ (List.mem_append_right _ (List.mem_map.mpr ⟨_, List.mem_of_getElem? hk, rfl⟩)))
/-! the array classes: longs, bytes, ints, forms -/
abbrev cfT (cJ cB cI cF : ClassId) : List (ClassId × FieldType) := [(cJ, .long), (cB, .byte), (cI, .int), (cF, .object cfFm)]
/-! contracts' start and end -/
def cfPre (D : va_G) (T : List (ClassId × FieldType)) (ws : va_W) (sz : Nat) (U : State) : Prop := U.heap.size = sz ∧ va_P D vwCl ws U.heap ∧ va_K D vwCl T U ∧ va_D (fun _ => True) ws ∧ cfWd U
def cfPost (D : va_G) (ws : va_W) (A : Nat → Prop) (t : State) : Prop := va_P D vwCl ws t.heap ∧ va_D A ws
theorem cf_blind {av : List Value} {D : va_G} {T : List (ClassId × FieldType)} {ws : va_W} {sz : Nat} : FrameBlind (va_Pc av (cfPre D T ws sz)) := fun a U g mk q => by
  obtain ⟨q0, q1, qP, qK, qD, qW⟩ := q
  exact ⟨q0, q1, qP, va_K.moved (u := U) (U := U.calling g mk a) (Vm.Alike.refl U.vm) qK, qD, cfWd.same (u := U) (U := U.calling g mk a) rfl qW⟩
theorem cf_pre {s : State} {H : Heap} {D : va_G} {T : List (ClassId × FieldType)} {ws : va_W} {A : Nat → Prop} {av : List Value} (hP : va_P D vwCl ws H) (hK : va_K D vwCl T s) (hD : va_D A ws) (hW : cfWd s) : ∀ U : State, U.heap = H → s.WarmedH U.vm → va_Pc av (cfPre D T ws H.size) av.toArray U := fun U hU hw => ⟨rfl, by rw [hU], by rw [hU]; exact hP, va_K.moved hw.alike hK, hD.weaken (fun _ _ _ _ => trivial), cfWd.warm hw hW⟩
theorem met_i {l : Launch} {y : MethodName} {rm : Room} {cc : ByteArray} {maxL : Nat} {S : Type} {D : va_G} {T : List (ClassId × FieldType)} {w0 : va_W} {sz : Nat} {av : List Value} {post : Int32 → S → Prop} {wO : S → va_W} {mc ms : Nat}
    (hy : plainName y.cls = true) (hn : (lg_sl av).length ≤ maxL)
    (body : ∀ (p : Program) (e : Env) (s : State) (m : MethodId) (below : List Frame) (meth : Method) (c : Code), p.tables.exec = Jvm.exec → c.code = cc → c.maxLocals = maxL → s.vm.findClass y.cls = some m.cls → (∀ w ∈ wsG, w.before av.toArray s = true) → meth.locks = false → meth.name = y.name → cfWd s → ∀ (A : Nat → Prop), (∀ q : Nat, s.heap.size ≤ q → A q) → s.heap.size = sz → va_P D vwCl w0 s.heap → va_K D vwCl T s → va_D A w0 → va_S A s.heap s.heap [] → ∀ (Q : State → Prop),
      (∀ (r : Int32) (u : S) (H : Heap) (locs : List Loc) (pc : Nat) (ls : Array Slot) (cells slots : Nat), post r u → va_P D vwCl (wO u) H → va_D A (wO u) → va_S A s.heap H locs → cells ≤ mc → slots ≤ ms → decode cc pc = .ok (.ireturn, 1) → W p l e rm s m av.toArray below meth c H locs cells slots Q (F0 m pc ls [.int r])) →
      ∀ ls : Array Slot, lv_has ls maxL (lv_args 0 av) → W p l e rm s m av.toArray below meth c s.heap [] 0 0 Q (F0 m 0 ls [])) :
    Met l y (Cond.code y cc maxL (some .int) :: wsG) rm (va_Pc av (cfPre D T w0 sz)) (va_Qi post (fun u t => cfPost D (wO u) (va_A w0 sz) t) (va_A w0 sz)) mc ms (va_A w0 sz) := by
  refine Met.ofW (cc := cc) (maxL := maxL) (ret := some .int) hy rfl ?_
  intro p e s m args below meth c s₁ B hml hv
  obtain ⟨rfl, hsz, hP, hK, hD0, hW⟩ := hv
  have hts : ∀ w ∈ wsG, w.before av.toArray s = true := fun w h => atoms_spec (ws := Cond.code y cc maxL (some .int) :: wsG) B.pre w (List.mem_cons_of_mem _ h)
  have hown : s.vm.findClass y.cls = some m.cls := findClass_of_methodNamed B.named
  have hin : meth.name = y.name := (name_of_methodNamed B.named B.method).1
  subst hsz
  have hD := hD0.self (sz := s.heap.size)
  have hl := lv_entry av (n := maxL) hn
  rw [lg_entry_eq]
  generalize (lg_sl av ++ List.replicate (maxL - (lg_sl av).length) Slot.unset).toArray = ls at hl ⊢
  exact body p e s m below meth c B.exec B.bytes hml hown hts B.notSynchronized hin hW (va_A w0 s.heap.size) (fun q h => Or.inr h) rfl hP hK hD va_S.rf _ (fun r u H locs pc ls cells slots hp hP hD hS hc hs hd => W.widen hc hs (W.iret B.exec B.bytes B.returns (fun t ht hw => ⟨⟨r, u, rfl, hp, by rw [ht]; exact hP, hD⟩, hS.F ht⟩) hS.2.2 hd)) ls hl
theorem met_l {l : Launch} {y : MethodName} {rm : Room} {cc : ByteArray} {maxL : Nat} {S : Type} {D : va_G} {T : List (ClassId × FieldType)} {w0 : va_W} {sz : Nat} {av : List Value} {post : Int64 → S → Prop} {wO : S → va_W} {mc ms : Nat}
    (hy : plainName y.cls = true) (hn : (lg_sl av).length ≤ maxL)
    (body : ∀ (p : Program) (e : Env) (s : State) (m : MethodId) (below : List Frame) (meth : Method) (c : Code), p.tables.exec = Jvm.exec → c.code = cc → c.maxLocals = maxL → s.vm.findClass y.cls = some m.cls → (∀ w ∈ wsG, w.before av.toArray s = true) → meth.locks = false → meth.name = y.name → cfWd s → ∀ (A : Nat → Prop), (∀ q : Nat, s.heap.size ≤ q → A q) → s.heap.size = sz → va_P D vwCl w0 s.heap → va_K D vwCl T s → va_D A w0 → va_S A s.heap s.heap [] → ∀ (Q : State → Prop),
      (∀ (r : Int64) (u : S) (H : Heap) (locs : List Loc) (pc : Nat) (ls : Array Slot) (cells slots : Nat), post r u → va_P D vwCl (wO u) H → va_D A (wO u) → va_S A s.heap H locs → cells ≤ mc → slots ≤ ms → decode cc pc = .ok (.lreturn, 1) → W p l e rm s m av.toArray below meth c H locs cells slots Q (F0 m pc ls [.long r])) →
      ∀ ls : Array Slot, lv_has ls maxL (lv_args 0 av) → W p l e rm s m av.toArray below meth c s.heap [] 0 0 Q (F0 m 0 ls [])) :
    Met l y (Cond.code y cc maxL (some .long) :: wsG) rm (va_Pc av (cfPre D T w0 sz)) (va_Ql post (fun u t => cfPost D (wO u) (va_A w0 sz) t) (va_A w0 sz)) mc ms (va_A w0 sz) := by
  refine Met.ofW (cc := cc) (maxL := maxL) (ret := some .long) hy rfl ?_
  intro p e s m args below meth c s₁ B hml hv
  obtain ⟨rfl, hsz, hP, hK, hD0, hW⟩ := hv
  have hts : ∀ w ∈ wsG, w.before av.toArray s = true := fun w h => atoms_spec (ws := Cond.code y cc maxL (some .long) :: wsG) B.pre w (List.mem_cons_of_mem _ h)
  have hown : s.vm.findClass y.cls = some m.cls := findClass_of_methodNamed B.named
  have hin : meth.name = y.name := (name_of_methodNamed B.named B.method).1
  subst hsz
  have hD := hD0.self (sz := s.heap.size)
  have hl := lv_entry av (n := maxL) hn
  rw [lg_entry_eq]
  generalize (lg_sl av ++ List.replicate (maxL - (lg_sl av).length) Slot.unset).toArray = ls at hl ⊢
  exact body p e s m below meth c B.exec B.bytes hml hown hts B.notSynchronized hin hW (va_A w0 s.heap.size) (fun q h => Or.inr h) rfl hP hK hD va_S.rf _ (fun r u H locs pc ls cells slots hp hP hD hS hc hs hd => W.widen hc hs (W.lret B.exec B.bytes B.returns (fun t ht hw => ⟨⟨r, u, rfl, hp, by rw [ht]; exact hP, hD⟩, hS.F ht⟩) hS.2.2 hd)) ls hl
theorem met_v {l : Launch} {y : MethodName} {rm : Room} {cc : ByteArray} {maxL : Nat} {S : Type} {D : va_G} {T : List (ClassId × FieldType)} {w0 : va_W} {sz : Nat} {av : List Value} {post : S → Prop} {wO : S → va_W} {mc ms : Nat}
    (hy : plainName y.cls = true) (hn : (lg_sl av).length ≤ maxL)
    (body : ∀ (p : Program) (e : Env) (s : State) (m : MethodId) (below : List Frame) (meth : Method) (c : Code), p.tables.exec = Jvm.exec → c.code = cc → c.maxLocals = maxL → s.vm.findClass y.cls = some m.cls → (∀ w ∈ wsG, w.before av.toArray s = true) → meth.locks = false → meth.name = y.name → cfWd s → ∀ (A : Nat → Prop), (∀ q : Nat, s.heap.size ≤ q → A q) → s.heap.size = sz → va_P D vwCl w0 s.heap → va_K D vwCl T s → va_D A w0 → va_S A s.heap s.heap [] → ∀ (Q : State → Prop),
      (∀ (u : S) (H : Heap) (locs : List Loc) (pc : Nat) (ls : Array Slot) (cells slots : Nat), post u → va_P D vwCl (wO u) H → va_D A (wO u) → va_S A s.heap H locs → cells ≤ mc → slots ≤ ms → decode cc pc = .ok (.return_, 1) → W p l e rm s m av.toArray below meth c H locs cells slots Q (F0 m pc ls [])) →
      ∀ ls : Array Slot, lv_has ls maxL (lv_args 0 av) → W p l e rm s m av.toArray below meth c s.heap [] 0 0 Q (F0 m 0 ls [])) :
    Met l y (Cond.code y cc maxL (none) :: wsG) rm (va_Pc av (cfPre D T w0 sz)) (va_Qv post (fun u t => cfPost D (wO u) (va_A w0 sz) t) (va_A w0 sz)) mc ms (va_A w0 sz) := by
  refine Met.ofW (cc := cc) (maxL := maxL) (ret := none) hy rfl ?_
  intro p e s m args below meth c s₁ B hml hv
  obtain ⟨rfl, hsz, hP, hK, hD0, hW⟩ := hv
  have hts : ∀ w ∈ wsG, w.before av.toArray s = true := fun w h => atoms_spec (ws := Cond.code y cc maxL (none) :: wsG) B.pre w (List.mem_cons_of_mem _ h)
  have hown : s.vm.findClass y.cls = some m.cls := findClass_of_methodNamed B.named
  have hin : meth.name = y.name := (name_of_methodNamed B.named B.method).1
  subst hsz
  have hD := hD0.self (sz := s.heap.size)
  have hl := lv_entry av (n := maxL) hn
  rw [lg_entry_eq]
  generalize (lg_sl av ++ List.replicate (maxL - (lg_sl av).length) Slot.unset).toArray = ls at hl ⊢
  exact body p e s m below meth c B.exec B.bytes hml hown hts B.notSynchronized hin hW (va_A w0 s.heap.size) (fun q h => Or.inr h) rfl hP hK hD va_S.rf _ (fun u H locs pc ls cells slots hp hP hD hS hc hs hd => W.widen hc hs (W.vret B.exec B.bytes B.returns (fun t ht hw => ⟨⟨u, rfl, hp, by rw [ht]; exact hP, hD⟩, hS.F ht⟩) hS.2.2 hd)) ls hl
theorem met_z {l : Launch} {y : MethodName} {rm : Room} {cc : ByteArray} {maxL : Nat} {S : Type} {D : va_G} {T : List (ClassId × FieldType)} {w0 : va_W} {sz : Nat} {av : List Value} {post : Int32 → S → Prop} {wO : S → va_W} {mc ms : Nat}
    (hy : plainName y.cls = true) (hn : (lg_sl av).length ≤ maxL)
    (body : ∀ (p : Program) (e : Env) (s : State) (m : MethodId) (below : List Frame) (meth : Method) (c : Code), p.tables.exec = Jvm.exec → c.code = cc → c.maxLocals = maxL → s.vm.findClass y.cls = some m.cls → (∀ w ∈ wsG, w.before av.toArray s = true) → meth.locks = false → meth.name = y.name → cfWd s → ∀ (A : Nat → Prop), (∀ q : Nat, s.heap.size ≤ q → A q) → s.heap.size = sz → va_P D vwCl w0 s.heap → va_K D vwCl T s → va_D A w0 → va_S A s.heap s.heap [] → ∀ (Q : State → Prop),
      (∀ (r : Int32) (u : S) (H : Heap) (locs : List Loc) (pc : Nat) (ls : Array Slot) (cells slots : Nat), post r u → va_P D vwCl (wO u) H → va_D A (wO u) → va_S A s.heap H locs → cells ≤ mc → slots ≤ ms → narrow .boolean (.int r) = .int r → decode cc pc = .ok (.ireturn, 1) → W p l e rm s m av.toArray below meth c H locs cells slots Q (F0 m pc ls [.int r])) →
      ∀ ls : Array Slot, lv_has ls maxL (lv_args 0 av) → W p l e rm s m av.toArray below meth c s.heap [] 0 0 Q (F0 m 0 ls [])) :
    Met l y (Cond.code y cc maxL (some .boolean) :: wsG) rm (va_Pc av (cfPre D T w0 sz)) (va_Qi post (fun u t => cfPost D (wO u) (va_A w0 sz) t) (va_A w0 sz)) mc ms (va_A w0 sz) := by
  refine Met.ofW (cc := cc) (maxL := maxL) (ret := some .boolean) hy rfl ?_
  intro p e s m args below meth c s₁ B hml hv
  obtain ⟨rfl, hsz, hP, hK, hD0, hW⟩ := hv
  have hts : ∀ w ∈ wsG, w.before av.toArray s = true := fun w h => atoms_spec (ws := Cond.code y cc maxL (some .boolean) :: wsG) B.pre w (List.mem_cons_of_mem _ h)
  have hown : s.vm.findClass y.cls = some m.cls := findClass_of_methodNamed B.named
  have hin : meth.name = y.name := (name_of_methodNamed B.named B.method).1
  subst hsz
  have hD := hD0.self (sz := s.heap.size)
  have hl := lv_entry av (n := maxL) hn
  rw [lg_entry_eq]
  generalize (lg_sl av ++ List.replicate (maxL - (lg_sl av).length) Slot.unset).toArray = ls at hl ⊢
  exact body p e s m below meth c B.exec B.bytes hml hown hts B.notSynchronized hin hW (va_A w0 s.heap.size) (fun q h => Or.inr h) rfl hP hK hD va_S.rf _ (fun r u H locs pc ls cells slots hp hP hD hS hc hs hnr hd => W.widen hc hs (W.zret B.exec B.bytes B.returns hnr (fun t ht hw => ⟨⟨r, u, rfl, hp, by rw [ht]; exact hP, hD⟩, hS.F ht⟩) hS.2.2 hd)) ls hl
theorem kc_i {p : Program} {l : Launch} {e : Env} {R : Room} {s : State} {m : MethodId} {args : Array Value} {below : List Frame} {meth : Method} {c : Code} {H : Heap} {locs : List Loc} {cells slots : Nat} {Q : State → Prop} {D : va_G} {ws wc wr : va_W} {A : Nat → Prop} {H0 : Heap} {mc ms pc : Nat} {ls : Array Slot} {st0 rest : List Value} {a : Array Value} {S : Type} {post : Int32 → S → Prop} {wO : S → va_W}
    (hP : va_P D vwCl ws H) (hD : va_D A ws) (hS : va_S A H0 H locs) (hA : ∀ q : Nat, H0.size ≤ q → A q) (isC isR : List Nat) (hC : isC.map (fun i => ws[i]?) = wc.map some) (hR : isR.map (fun i => ws[i]?) = wr.map some) (hnc : va_nd isC = true) (hn : va_nd isR = true) (hdis : ∀ i ∈ isR, i ∉ isC)
    (hr : va_P D vwCl wc H → va_D A wc → va_Run p l e R s m args below meth c H locs cells slots mc ms (F0 m pc ls st0) rest (va_Qi post (fun u t => cfPost D (wO u) (va_A wc H.size) t) (va_A wc H.size) a) (va_A wc H.size))
    (kk : ∀ (r : Int32) (u : S) (H1 : Heap) (locs1 : List Loc), post r u → va_P D vwCl (wr ++ wO u) H1 → va_D A (wr ++ wO u) → va_S A H0 H1 locs1 → W p l e R s m args below meth c H1 locs1 (cells + mc) (slots + ms) Q (F0 m (pc + 3) ls (.int r :: rest))) : W p l e R s m args below meth c H locs cells slots Q (F0 m pc ls st0) := by
  have hFc := va_free (wc := wc) hD hS hA isC hC
  refine va_calli (hr (hP.sub isC (fm_of hC)) (hD.sub isC hnc hC)) hS (fun q _ h => hFc q h) hFc (fun r u t H1 locs1 ht hvm hw hB hz1 hk1 hS1 => ?_)
  obtain ⟨hP1, hD1⟩ := hB
  rw [ht] at hP1
  obtain ⟨hP2, hD2⟩ := va_join (wr := wr) (w1 := wO u) hP hD isC isR hC hR hn hdis hk1 hFc hP1 hD1
  exact kk r u H1 locs1 hw hP2 hD2 hS1
theorem kc_l {p : Program} {l : Launch} {e : Env} {R : Room} {s : State} {m : MethodId} {args : Array Value} {below : List Frame} {meth : Method} {c : Code} {H : Heap} {locs : List Loc} {cells slots : Nat} {Q : State → Prop} {D : va_G} {ws wc wr : va_W} {A : Nat → Prop} {H0 : Heap} {mc ms pc : Nat} {ls : Array Slot} {st0 rest : List Value} {a : Array Value} {S : Type} {post : Int64 → S → Prop} {wO : S → va_W}
    (hP : va_P D vwCl ws H) (hD : va_D A ws) (hS : va_S A H0 H locs) (hA : ∀ q : Nat, H0.size ≤ q → A q) (isC isR : List Nat) (hC : isC.map (fun i => ws[i]?) = wc.map some) (hR : isR.map (fun i => ws[i]?) = wr.map some) (hnc : va_nd isC = true) (hn : va_nd isR = true) (hdis : ∀ i ∈ isR, i ∉ isC)
    (hr : va_P D vwCl wc H → va_D A wc → va_Run p l e R s m args below meth c H locs cells slots mc ms (F0 m pc ls st0) rest (va_Ql post (fun u t => cfPost D (wO u) (va_A wc H.size) t) (va_A wc H.size) a) (va_A wc H.size))
    (kk : ∀ (r : Int64) (u : S) (H1 : Heap) (locs1 : List Loc), post r u → va_P D vwCl (wr ++ wO u) H1 → va_D A (wr ++ wO u) → va_S A H0 H1 locs1 → W p l e R s m args below meth c H1 locs1 (cells + mc) (slots + ms) Q (F0 m (pc + 3) ls (.long r :: rest))) : W p l e R s m args below meth c H locs cells slots Q (F0 m pc ls st0) := by
  have hFc := va_free (wc := wc) hD hS hA isC hC
  refine va_calll (hr (hP.sub isC (fm_of hC)) (hD.sub isC hnc hC)) hS (fun q _ h => hFc q h) hFc (fun r u t H1 locs1 ht hvm hw hB hz1 hk1 hS1 => ?_)
  obtain ⟨hP1, hD1⟩ := hB
  rw [ht] at hP1
  obtain ⟨hP2, hD2⟩ := va_join (wr := wr) (w1 := wO u) hP hD isC isR hC hR hn hdis hk1 hFc hP1 hD1
  exact kk r u H1 locs1 hw hP2 hD2 hS1
theorem kc_v {p : Program} {l : Launch} {e : Env} {R : Room} {s : State} {m : MethodId} {args : Array Value} {below : List Frame} {meth : Method} {c : Code} {H : Heap} {locs : List Loc} {cells slots : Nat} {Q : State → Prop} {D : va_G} {ws wc wr : va_W} {A : Nat → Prop} {H0 : Heap} {mc ms pc : Nat} {ls : Array Slot} {st0 rest : List Value} {a : Array Value} {S : Type} {post : S → Prop} {wO : S → va_W}
    (hP : va_P D vwCl ws H) (hD : va_D A ws) (hS : va_S A H0 H locs) (hA : ∀ q : Nat, H0.size ≤ q → A q) (isC isR : List Nat) (hC : isC.map (fun i => ws[i]?) = wc.map some) (hR : isR.map (fun i => ws[i]?) = wr.map some) (hnc : va_nd isC = true) (hn : va_nd isR = true) (hdis : ∀ i ∈ isR, i ∉ isC)
    (hr : va_P D vwCl wc H → va_D A wc → va_Run p l e R s m args below meth c H locs cells slots mc ms (F0 m pc ls st0) rest (va_Qv post (fun u t => cfPost D (wO u) (va_A wc H.size) t) (va_A wc H.size) a) (va_A wc H.size))
    (kk : ∀ (u : S) (H1 : Heap) (locs1 : List Loc), post u → va_P D vwCl (wr ++ wO u) H1 → va_D A (wr ++ wO u) → va_S A H0 H1 locs1 → W p l e R s m args below meth c H1 locs1 (cells + mc) (slots + ms) Q (F0 m (pc + 3) ls (rest))) : W p l e R s m args below meth c H locs cells slots Q (F0 m pc ls st0) := by
  have hFc := va_free (wc := wc) hD hS hA isC hC
  refine va_callv (hr (hP.sub isC (fm_of hC)) (hD.sub isC hnc hC)) hS (fun q _ h => hFc q h) hFc (fun u t H1 locs1 ht hvm hw hB hz1 hk1 hS1 => ?_)
  obtain ⟨hP1, hD1⟩ := hB
  rw [ht] at hP1
  obtain ⟨hP2, hD2⟩ := va_join (wr := wr) (w1 := wO u) hP hD isC isR hC hR hn hdis hk1 hFc hP1 hD1
  exact kk u H1 locs1 hw hP2 hD2 hS1
theorem tp_i {p : Program} {l : Launch} {e : Env} {R : Room} {s : State} {m : MethodId} {args : Array Value} {below : List Frame} {meth : Method} {c : Code} {H : Heap} {locs : List Loc} {cells slots : Nat} {Q : State → Prop} {pc : Nat} {ls : Array Slot} {rest : List Value} {x y : Int32} (h : x = y) (k : W p l e R s m args below meth c H locs cells slots Q (F0 m pc ls (.int y :: rest))) : W p l e R s m args below meth c H locs cells slots Q (F0 m pc ls (.int x :: rest)) := by
  rw [h]; exact k
theorem tp_l {p : Program} {l : Launch} {e : Env} {R : Room} {s : State} {m : MethodId} {args : Array Value} {below : List Frame} {meth : Method} {c : Code} {H : Heap} {locs : List Loc} {cells slots : Nat} {Q : State → Prop} {pc : Nat} {ls : Array Slot} {rest : List Value} {x y : Int64} (h : x = y) (k : W p l e R s m args below meth c H locs cells slots Q (F0 m pc ls (.long y :: rest))) : W p l e R s m args below meth c H locs cells slots Q (F0 m pc ls (.long x :: rest)) := by
  rw [h]; exact k
theorem tp_v {p : Program} {l : Launch} {e : Env} {R : Room} {s : State} {m : MethodId} {args : Array Value} {below : List Frame} {meth : Method} {c : Code} {H : Heap} {locs : List Loc} {cells slots : Nat} {Q : State → Prop} {pc : Nat} {ls : Array Slot} {rest : List Value} {x y : Value} (h : x = y) (k : W p l e R s m args below meth c H locs cells slots Q (F0 m pc ls (y :: rest))) : W p l e R s m args below meth c H locs cells slots Q (F0 m pc ls (x :: rest)) := by
  rw [h]; exact k
theorem nw_long {p : Program} {l : Launch} {e : Env} {R : Room} {s : State} {m : MethodId} {args : Array Value} {below : List Frame} {meth : Method} {c : Code} {H : Heap} {locs : List Loc} {cells slots : Nat} {Q : State → Prop} {cc : ByteArray} {pc : Nat} {ls : Array Slot} {rest : List Value} {D : va_G} {T : List (ClassId × FieldType)} {ws : va_W} {A : Nat → Prop} {H0 : Heap} (hexec : p.tables.exec = Jvm.exec) (hb : c.code = cc) (harr : (Cond.arrayClass .long).before args s = true) (hK : va_K D vwCl T s) (hP : va_P D vwCl ws H) (hD : va_D A ws) (hS : va_S A H0 H locs) (hA : ∀ q : Nat, H0.size ≤ q → A q) (t0 : Nat) {cA : ClassId} (ht : T[t0]? = some (cA, .long))
    (N : Nat) (hN : N < 2 ^ 24) (hcells : cells + 1 ≤ R.cells) (hslots : slots + N ≤ R.slots) (hdg : decode cc pc = .ok (.newarray .long, 2))
    (kk : ∀ (q : Nat) (H1 : Heap), va_P D vwCl (ws ++ [(q, .inl (cA, N, .inr (.inl (fun _ => 0))))]) H1 → va_D A (ws ++ [(q, .inl (cA, N, .inr (.inl (fun _ => 0))))]) → va_S A H0 H1 locs → W p l e R s m args below meth c H1 locs (cells + 1) (slots + N) Q (F0 m (pc + 2) ls (.ref q :: rest))) : W p l e R s m args below meth c H locs cells slots Q (F0 m pc ls (.int (nI N) :: rest)) := by
  refine va_newa (atype := .long) (ty := .long) (a0 := (N, .inr (.inl (fun _ => 0)))) (N' := N) hexec hb harr rfl hK hP hD hS hA (fun cA => rfl) (nI_pos (by omega)) (nI_clamp (by omega)) (by show N * 8 ≤ _; omega) hcells hslots hdg (fun q cA' H1 hK' hP' hD' hS' => ?_)
  have h1 := va_nm_long ((hK'.2 T.length (cA', .long) (by simp)).2)
  have h2 := va_nm_long ((hK.2 t0 _ ht).2)
  cases Option.some.inj (h1.symm.trans h2)
  exact kk q H1 hP' hD' hS' 
theorem nw_int {p : Program} {l : Launch} {e : Env} {R : Room} {s : State} {m : MethodId} {args : Array Value} {below : List Frame} {meth : Method} {c : Code} {H : Heap} {locs : List Loc} {cells slots : Nat} {Q : State → Prop} {cc : ByteArray} {pc : Nat} {ls : Array Slot} {rest : List Value} {D : va_G} {T : List (ClassId × FieldType)} {ws : va_W} {A : Nat → Prop} {H0 : Heap} (hexec : p.tables.exec = Jvm.exec) (hb : c.code = cc) (harr : (Cond.arrayClass .int).before args s = true) (hK : va_K D vwCl T s) (hP : va_P D vwCl ws H) (hD : va_D A ws) (hS : va_S A H0 H locs) (hA : ∀ q : Nat, H0.size ≤ q → A q) (t0 : Nat) {cA : ClassId} (ht : T[t0]? = some (cA, .int))
    (N : Nat) (hN : N < 2 ^ 24) (hcells : cells + 1 ≤ R.cells) (hslots : slots + N ≤ R.slots) (hdg : decode cc pc = .ok (.newarray .int, 2))
    (kk : ∀ (q : Nat) (H1 : Heap), va_P D vwCl (ws ++ [(q, .inl (cA, N, .inl (fun _ => 0)))]) H1 → va_D A (ws ++ [(q, .inl (cA, N, .inl (fun _ => 0)))]) → va_S A H0 H1 locs → W p l e R s m args below meth c H1 locs (cells + 1) (slots + N) Q (F0 m (pc + 2) ls (.ref q :: rest))) : W p l e R s m args below meth c H locs cells slots Q (F0 m pc ls (.int (nI N) :: rest)) := by
  refine va_newa (atype := .int) (ty := .int) (a0 := (N, .inl (fun _ => 0))) (N' := N) hexec hb harr rfl hK hP hD hS hA (fun cA => rfl) (nI_pos (by omega)) (nI_clamp (by omega)) (by show N * 4 ≤ _; omega) hcells hslots hdg (fun q cA' H1 hK' hP' hD' hS' => ?_)
  have h1 := va_nm_int ((hK'.2 T.length (cA', .int) (by simp)).2)
  have h2 := va_nm_int ((hK.2 t0 _ ht).2)
  cases Option.some.inj (h1.symm.trans h2)
  exact kk q H1 hP' hD' hS' 
theorem nw_byte {p : Program} {l : Launch} {e : Env} {R : Room} {s : State} {m : MethodId} {args : Array Value} {below : List Frame} {meth : Method} {c : Code} {H : Heap} {locs : List Loc} {cells slots : Nat} {Q : State → Prop} {cc : ByteArray} {pc : Nat} {ls : Array Slot} {rest : List Value} {D : va_G} {T : List (ClassId × FieldType)} {ws : va_W} {A : Nat → Prop} {H0 : Heap} (hexec : p.tables.exec = Jvm.exec) (hb : c.code = cc) (harr : (Cond.arrayClass .byte).before args s = true) (hK : va_K D vwCl T s) (hP : va_P D vwCl ws H) (hD : va_D A ws) (hS : va_S A H0 H locs) (hA : ∀ q : Nat, H0.size ≤ q → A q) (t0 : Nat) {cA : ClassId} (ht : T[t0]? = some (cA, .byte))
    (N : Nat) (hN : N < 2 ^ 24) (hcells : cells + 1 ≤ R.cells) (hslots : slots + N ≤ R.slots) (hdg : decode cc pc = .ok (.newarray .byte, 2))
    (kk : ∀ (q : Nat) (H1 : Heap), va_P D vwCl (ws ++ [(q, .inl (cA, N, .inl (fun _ => 0)))]) H1 → va_D A (ws ++ [(q, .inl (cA, N, .inl (fun _ => 0)))]) → va_S A H0 H1 locs → W p l e R s m args below meth c H1 locs (cells + 1) (slots + N) Q (F0 m (pc + 2) ls (.ref q :: rest))) : W p l e R s m args below meth c H locs cells slots Q (F0 m pc ls (.int (nI N) :: rest)) := by
  refine va_newa (atype := .byte) (ty := .byte) (a0 := (N, .inl (fun _ => 0))) (N' := N) hexec hb harr rfl hK hP hD hS hA (fun cA => rfl) (nI_pos (by omega)) (nI_clamp (by omega)) (by show N * 1 ≤ _; omega) hcells hslots hdg (fun q cA' H1 hK' hP' hD' hS' => ?_)
  have h1 := va_nm_byte ((hK'.2 T.length (cA', .byte) (by simp)).2)
  have h2 := va_nm_byte ((hK.2 t0 _ ht).2)
  cases Option.some.inj (h1.symm.trans h2)
  exact kk q H1 hP' hD' hS' 
end
section
set_option maxHeartbeats 4000000 in
set_option maxRecDepth 100000 in
theorem c_nlzI (l : Launch) (D : va_G) (cJ cB cI cF : ClassId) (k : Nat) (sz : Nat) (hk : k < 4294967296) : Met l yJI_numberOfLeadingZeros (Cond.code yJI_numberOfLeadingZeros cJI_numberOfLeadingZeros 2 (some .int) :: wsG) ({ frames := 0, cells := 0, slots := 0, locals := 0 }) (va_Pc [.int (nI k)] (cfPre D (cfT cJ cB cI cF) [] sz)) (va_Qi (fun (r : Int32) (u : Unit) => r = nI (32 - bln k) ∧ True) (fun u t => cfPost D ((fun (u : Unit) => []) u) (va_A [] sz) t) (va_A [] sz)) 0 0 (va_A [] sz) := by
  refine met_i (cc := cJI_numberOfLeadingZeros) (maxL := 2) (S := Unit) (D := D) (wO := fun (u : Unit) => []) (by decide) (Nat.le_of_ble_eq_true rfl) ?_
  intro p e s m below meth c hx hb hml hown hts hlocks hin hWd A hA hsz hP hK hD hS Q hret ls hl
  have hown : s.vm.findClass "java/lang/Integer" = some m.cls := hown
  have hl : lv_has ls 2 [(0, .int (nI k))] := hl
  have hP : va_P D vwCl [] s.heap := hP
  refine lv_iload_n hx hb dJI_numberOfLeadingZeros_0 rfl (lv_at hl 0 rfl) ?_
  refine lv_if_gt (tgt := 15) hx hb dJI_numberOfLeadingZeros_1 (by decide) (fun c1 => ?_) (fun c1 => ?_)
  · have h1 := (nI_sg hk).mp c1
    have ct73 : ∀ (nn : Nat) (kk : Nat), (nn + 1 + bln k = 32 + bln kk) → (0 < kk) → (kk < 4) → (nn ≤ 31) → (1 ≤ nn) → ∀ (H : Heap) (locs : List Loc) (ls : Array Slot), va_P D vwCl [] H → va_D A [] → va_S A s.heap H locs → lv_has ls 2 [(0, .int (nI kk)), (1, .int (nI nn))] → W p l e ({ frames := 0, cells := 0, slots := 0, locals := 0 }) s m ([.int (nI k)].toArray) below meth c H locs (0) (0) Q (F0 m 73 ls []) := by
      intro nn kk g1 g2 g3 g4 g6 H locs ls hP hD hS hl
      refine lv_iload_n hx hb dJI_numberOfLeadingZeros_73 rfl (lv_at hl 1 rfl) ?_
      refine lv_iload_n hx hb dJI_numberOfLeadingZeros_74 rfl (lv_at hl 0 rfl) ?_
      refine lv_iconst (v := nI 1) hx hb dJI_numberOfLeadingZeros_75 (by decide) ?_
      refine lv_iushr hx hb dJI_numberOfLeadingZeros_76 rfl ?_
      refine tp_i (show (((nI kk).toUInt32 >>> ((nI 1).toUInt32 &&& Int32.toUInt32 31)).toInt32) = (nI (kk / 2)) from nI_ushr (by omega) (by omega)) ?_
      refine lv_isub hx hb dJI_numberOfLeadingZeros_77 ?_
      refine tp_i (show ((nI nn) - (nI (kk / 2))) = (nI (nn - (kk / 2))) from pk_sub (by omega)) ?_
      exact hret (nI (nn - (kk / 2))) () _ _ _ _ _ _ ⟨congrArg nI (by have := bln_4 g2 g3; omega), trivial⟩ (hP.sub [] rfl) (hD.sub [] (by decide) rfl) hS (Nat.le_of_ble_eq_true rfl) (Nat.le_of_ble_eq_true rfl) dJI_numberOfLeadingZeros_78
    have ct61 : ∀ (nn : Nat) (kk : Nat), (nn + 1 + bln k = 32 + bln kk) → (0 < kk) → (kk < 16) → (nn ≤ 31) → (3 ≤ nn) → ∀ (H : Heap) (locs : List Loc) (ls : Array Slot), va_P D vwCl [] H → va_D A [] → va_S A s.heap H locs → lv_has ls 2 [(0, .int (nI kk)), (1, .int (nI nn))] → W p l e ({ frames := 0, cells := 0, slots := 0, locals := 0 }) s m ([.int (nI k)].toArray) below meth c H locs (0) (0) Q (F0 m 61 ls []) := by
      intro nn kk g1 g2 g3 g4 g6 H locs ls hP hD hS hl
      refine lv_iload_n hx hb dJI_numberOfLeadingZeros_61 rfl (lv_at hl 0 rfl) ?_
      refine lv_iconst (v := nI 4) hx hb dJI_numberOfLeadingZeros_62 (by decide) ?_
      refine lv_icmp_lt (tgt := 73) hx hb dJI_numberOfLeadingZeros_63 (by decide) (fun c63 => ?_) (fun c63 => ?_)
      · have c63 : kk < 4 := (nI_ltI (by omega) (by omega)).mp c63
        exact ct73 nn kk (by omega) (by omega) (by omega) (by omega) (by omega) _ _ _ (hP.sub [] rfl) (hD.sub [] (by decide) rfl) hS (lv_sub hl [0, 1] rfl)
      · have c63 : ¬ kk < 4 := fun h => c63 ((nI_ltI (by omega) (by omega)).mpr h)
        refine lv_iinc (v := nI (nn - 2)) (lv' := [(1, .int (nI (nn - 2))), (0, .int (nI kk))]) hx hb dJI_numberOfLeadingZeros_66 hl (k := 1) rfl (nI_dec (b := 2) (by omega) _ (by decide)) (by decide) rfl (fun ls hl => ?_)
        refine lv_iload_n hx hb dJI_numberOfLeadingZeros_69 rfl (lv_at hl 1 rfl) ?_
        refine lv_iconst (v := nI 2) hx hb dJI_numberOfLeadingZeros_70 (by decide) ?_
        refine lv_iushr hx hb dJI_numberOfLeadingZeros_71 rfl ?_
        refine tp_i (show (((nI kk).toUInt32 >>> ((nI 2).toUInt32 &&& Int32.toUInt32 31)).toInt32) = (nI (kk / 4)) from nI_ushr (by omega) (by omega)) ?_
        refine lv_istore_n (lv' := [(0, .int (nI (kk / 4))), (1, .int (nI (nn - 2)))]) hx hb dJI_numberOfLeadingZeros_72 rfl hl (by decide) rfl (fun ls hl => ?_)
        exact ct73 (nn - 2) (kk / 4) (by have : bln kk = 2 + bln (kk / 4) := bln_sh (k := 2) (by omega); omega) (by omega) (by omega) (by omega) (by omega) _ _ _ (hP.sub [] rfl) (hD.sub [] (by decide) rfl) hS (lv_sub hl [0, 1] rfl)
    have ct48 : ∀ (nn : Nat) (kk : Nat), (nn + 1 + bln k = 32 + bln kk) → (0 < kk) → (kk < 256) → (nn ≤ 31) → (7 ≤ nn) → ∀ (H : Heap) (locs : List Loc) (ls : Array Slot), va_P D vwCl [] H → va_D A [] → va_S A s.heap H locs → lv_has ls 2 [(0, .int (nI kk)), (1, .int (nI nn))] → W p l e ({ frames := 0, cells := 0, slots := 0, locals := 0 }) s m ([.int (nI k)].toArray) below meth c H locs (0) (0) Q (F0 m 48 ls []) := by
      intro nn kk g1 g2 g3 g4 g6 H locs ls hP hD hS hl
      refine lv_iload_n hx hb dJI_numberOfLeadingZeros_48 rfl (lv_at hl 0 rfl) ?_
      refine lv_bipush (v := nI 16) hx hb dJI_numberOfLeadingZeros_49 (by decide) ?_
      refine lv_icmp_lt (tgt := 61) hx hb dJI_numberOfLeadingZeros_51 (by decide) (fun c51 => ?_) (fun c51 => ?_)
      · have c51 : kk < 16 := (nI_ltI (by omega) (by omega)).mp c51
        exact ct61 nn kk (by omega) (by omega) (by omega) (by omega) (by omega) _ _ _ (hP.sub [] rfl) (hD.sub [] (by decide) rfl) hS (lv_sub hl [0, 1] rfl)
      · have c51 : ¬ kk < 16 := fun h => c51 ((nI_ltI (by omega) (by omega)).mpr h)
        refine lv_iinc (v := nI (nn - 4)) (lv' := [(1, .int (nI (nn - 4))), (0, .int (nI kk))]) hx hb dJI_numberOfLeadingZeros_54 hl (k := 1) rfl (nI_dec (b := 4) (by omega) _ (by decide)) (by decide) rfl (fun ls hl => ?_)
        refine lv_iload_n hx hb dJI_numberOfLeadingZeros_57 rfl (lv_at hl 1 rfl) ?_
        refine lv_iconst (v := nI 4) hx hb dJI_numberOfLeadingZeros_58 (by decide) ?_
        refine lv_iushr hx hb dJI_numberOfLeadingZeros_59 rfl ?_
        refine tp_i (show (((nI kk).toUInt32 >>> ((nI 4).toUInt32 &&& Int32.toUInt32 31)).toInt32) = (nI (kk / 16)) from nI_ushr (by omega) (by omega)) ?_
        refine lv_istore_n (lv' := [(0, .int (nI (kk / 16))), (1, .int (nI (nn - 4)))]) hx hb dJI_numberOfLeadingZeros_60 rfl hl (by decide) rfl (fun ls hl => ?_)
        exact ct61 (nn - 4) (kk / 16) (by have : bln kk = 4 + bln (kk / 16) := bln_sh (k := 4) (by omega); omega) (by omega) (by omega) (by omega) (by omega) _ _ _ (hP.sub [] rfl) (hD.sub [] (by decide) rfl) hS (lv_sub hl [0, 1] rfl)
    have ct33 : ∀ (nn : Nat) (kk : Nat), (nn + 1 + bln k = 32 + bln kk) → (0 < kk) → (kk < 65536) → (nn ≤ 31) → (15 ≤ nn) → ∀ (H : Heap) (locs : List Loc) (ls : Array Slot), va_P D vwCl [] H → va_D A [] → va_S A s.heap H locs → lv_has ls 2 [(0, .int (nI kk)), (1, .int (nI nn))] → W p l e ({ frames := 0, cells := 0, slots := 0, locals := 0 }) s m ([.int (nI k)].toArray) below meth c H locs (0) (0) Q (F0 m 33 ls []) := by
      intro nn kk g1 g2 g3 g4 g6 H locs ls hP hD hS hl
      refine lv_iload_n hx hb dJI_numberOfLeadingZeros_33 rfl (lv_at hl 0 rfl) ?_
      refine lv_sipush (v := nI 256) hx hb dJI_numberOfLeadingZeros_34 (by decide) ?_
      refine lv_icmp_lt (tgt := 48) hx hb dJI_numberOfLeadingZeros_37 (by decide) (fun c37 => ?_) (fun c37 => ?_)
      · have c37 : kk < 256 := (nI_ltI (by omega) (by omega)).mp c37
        exact ct48 nn kk (by omega) (by omega) (by omega) (by omega) (by omega) _ _ _ (hP.sub [] rfl) (hD.sub [] (by decide) rfl) hS (lv_sub hl [0, 1] rfl)
      · have c37 : ¬ kk < 256 := fun h => c37 ((nI_ltI (by omega) (by omega)).mpr h)
        refine lv_iinc (v := nI (nn - 8)) (lv' := [(1, .int (nI (nn - 8))), (0, .int (nI kk))]) hx hb dJI_numberOfLeadingZeros_40 hl (k := 1) rfl (nI_dec (b := 8) (by omega) _ (by decide)) (by decide) rfl (fun ls hl => ?_)
        refine lv_iload_n hx hb dJI_numberOfLeadingZeros_43 rfl (lv_at hl 1 rfl) ?_
        refine lv_bipush (v := nI 8) hx hb dJI_numberOfLeadingZeros_44 (by decide) ?_
        refine lv_iushr hx hb dJI_numberOfLeadingZeros_46 rfl ?_
        refine tp_i (show (((nI kk).toUInt32 >>> ((nI 8).toUInt32 &&& Int32.toUInt32 31)).toInt32) = (nI (kk / 256)) from nI_ushr (by omega) (by omega)) ?_
        refine lv_istore_n (lv' := [(0, .int (nI (kk / 256))), (1, .int (nI (nn - 8)))]) hx hb dJI_numberOfLeadingZeros_47 rfl hl (by decide) rfl (fun ls hl => ?_)
        exact ct48 (nn - 8) (kk / 256) (by have : bln kk = 8 + bln (kk / 256) := bln_sh (k := 8) (by omega); omega) (by omega) (by omega) (by omega) (by omega) _ _ _ (hP.sub [] rfl) (hD.sub [] (by decide) rfl) hS (lv_sub hl [0, 1] rfl)
    refine lv_bipush (v := nI 31) hx hb dJI_numberOfLeadingZeros_15 (by decide) ?_
    refine lv_istore_n (lv' := [(1, .int (nI 31)), (0, .int (nI k))]) hx hb dJI_numberOfLeadingZeros_17 rfl hl (by decide) rfl (fun ls hl => ?_)
    refine lv_iload_n hx hb dJI_numberOfLeadingZeros_18 rfl (lv_at hl 1 rfl) ?_
    refine lv_ldcw (v := (65536)) hx hb hown (hts _ tw_344) dJI_numberOfLeadingZeros_19 ?_
    refine tp_i (show (65536) = (nI 65536) from by decide) ?_
    refine lv_icmp_lt (tgt := 33) hx hb dJI_numberOfLeadingZeros_22 (by decide) (fun c22 => ?_) (fun c22 => ?_)
    · have c22 : k < 65536 := (nI_ltI (by omega) (by omega)).mp c22
      exact ct33 31 k (by omega) (by omega) (by omega) (by omega) (by omega) _ _ _ (hP.sub [] rfl) (hD.sub [] (by decide) rfl) hS (lv_sub hl [1, 0] rfl)
    · have c22 : ¬ k < 65536 := fun h => c22 ((nI_ltI (by omega) (by omega)).mpr h)
      refine lv_iinc (v := nI (31 - 16)) (lv' := [(1, .int (nI (31 - 16))), (0, .int (nI k))]) hx hb dJI_numberOfLeadingZeros_25 hl (k := 0) rfl (nI_dec (b := 16) (by omega) _ (by decide)) (by decide) rfl (fun ls hl => ?_)
      refine lv_iload_n hx hb dJI_numberOfLeadingZeros_28 rfl (lv_at hl 1 rfl) ?_
      refine lv_bipush (v := nI 16) hx hb dJI_numberOfLeadingZeros_29 (by decide) ?_
      refine lv_iushr hx hb dJI_numberOfLeadingZeros_31 rfl ?_
      refine tp_i (show (((nI k).toUInt32 >>> ((nI 16).toUInt32 &&& Int32.toUInt32 31)).toInt32) = (nI (k / 65536)) from nI_ushr (by omega) (by omega)) ?_
      refine lv_istore_n (lv' := [(0, .int (nI (k / 65536))), (1, .int (nI (31 - 16)))]) hx hb dJI_numberOfLeadingZeros_32 rfl hl (by decide) rfl (fun ls hl => ?_)
      exact ct33 (31 - 16) (k / 65536) (by have : bln k = 16 + bln (k / 65536) := bln_sh (k := 16) (by omega); omega) (by omega) (by omega) (by omega) (by omega) _ _ _ (hP.sub [] rfl) (hD.sub [] (by decide) rfl) hS (lv_sub hl [0, 1] rfl)
  · refine lv_iload_n hx hb dJI_numberOfLeadingZeros_4 rfl (lv_at hl 0 rfl) ?_
    refine lv_if_ne (tgt := 13) hx hb dJI_numberOfLeadingZeros_5 (by decide) (fun c5 => ?_) (fun c5 => ?_)
    · refine lv_iconst (v := nI 0) hx hb dJI_numberOfLeadingZeros_13 (by decide) ?_
      exact hret (nI 0) () _ _ _ _ _ _ ⟨by have e : bln k = 32 := bln_32 (nI_ng hk c1 c5) hk; rw [e], trivial⟩ (hP.sub [] rfl) (hD.sub [] (by decide) rfl) hS (Nat.le_of_ble_eq_true rfl) (Nat.le_of_ble_eq_true rfl) dJI_numberOfLeadingZeros_14
    · refine lv_bipush (v := nI 32) hx hb dJI_numberOfLeadingZeros_8 (by decide) ?_
      refine lv_goto (tgt := 14) hx hb dJI_numberOfLeadingZeros_10 (by decide) ?_
      exact hret (nI 32) () _ _ _ _ _ _ ⟨by have e : k = 0 := nI_z hk c5; subst e; rfl, trivial⟩ (hP.sub [] rfl) (hD.sub [] (by decide) rfl) hS (Nat.le_of_ble_eq_true rfl) (Nat.le_of_ble_eq_true rfl) dJI_numberOfLeadingZeros_14

set_option maxHeartbeats 4000000 in
set_option maxRecDepth 100000 in
theorem c_nlzL (l : Launch) (D : va_G) (cJ cB cI cF : ClassId) (x : Int64) (sz : Nat) : Met l yJL_numberOfLeadingZeros (Cond.code yJL_numberOfLeadingZeros cJL_numberOfLeadingZeros 3 (some .int) :: wsG) ({ frames := 1, cells := 0, slots := 0, locals := 21 }) (va_Pc [.long x] (cfPre D (cfT cJ cB cI cF) [] sz)) (va_Qi (fun (r : Int32) (u : Unit) => r = nI (64 - bln (uN x)) ∧ True) (fun u t => cfPost D ((fun (u : Unit) => []) u) (va_A [] sz) t) (va_A [] sz)) 0 0 (va_A [] sz) := by
  refine met_i (cc := cJL_numberOfLeadingZeros) (maxL := 3) (S := Unit) (D := D) (wO := fun (u : Unit) => []) (by decide) (Nat.le_of_ble_eq_true rfl) ?_
  intro p e s m below meth c hx hb hml hown hts hlocks hin hWd A hA hsz hP hK hD hS Q hret ls hl
  have hown : s.vm.findClass "java/lang/Long" = some m.cls := hown
  have hl : lv_has ls 3 [(0, .long x)] := hl
  have hP : va_P D vwCl [] s.heap := hP
  have hx4 := uN_lt x
  refine lv_lload_n hx hb dJL_numberOfLeadingZeros_0 rfl (lv_at hl 0 rfl) ?_
  refine lv_bipush (v := nI 32) hx hb dJL_numberOfLeadingZeros_1 (by decide) ?_
  refine lv_lushr hx hb dJL_numberOfLeadingZeros_3 rfl ?_
  refine lv_l2i hx hb dJL_numberOfLeadingZeros_4 rfl ?_
  refine tp_i (show (((x.toUInt64 >>> ((nI 32).toInt64.toUInt64 &&& Int64.toUInt64 63)).toInt64).toInt32) = (nI (uN x / 4294967296)) from l2i_hi x) ?_
  refine lv_istore_n (lv' := [(2, .int (nI (uN x / 4294967296))), (0, .long x)]) hx hb dJL_numberOfLeadingZeros_5 rfl hl (by decide) rfl (fun ls hl => ?_)
  refine lv_iload_n hx hb dJL_numberOfLeadingZeros_6 rfl (lv_at hl 0 rfl) ?_
  refine lv_if_ne (tgt := 21) hx hb dJL_numberOfLeadingZeros_7 (by decide) (fun c7 => ?_) (fun c7 => ?_)
  · have c7 : ¬ uN x / 4294967296 = 0 := fun h => c7 (by rw [h]; rfl)
    refine lv_iload_n hx hb dJL_numberOfLeadingZeros_21 rfl (lv_at hl 0 rfl) ?_
    refine kc_i (wc := []) (wr := []) hP hD hS hA [] [] rfl rfl (by decide) (by decide) (by decide) (fun hPc hDc => va_runS (As := [.int (nI (uN x / 4294967296))]) (rest := []) ⟨hx, hb, hml, hown, hts⟩ (c_nlzI l D cJ cB cI cF (uN x / 4294967296) _ (by omega)) (va_cwS 1 hts (wsG_k tw_341 (wsG_k tw_342 (wsG_k tw_19 (wsG_c tw_343)))) rfl rfl rfl (by decide +kernel) ⟨Nat.le_of_ble_eq_true rfl, Nat.le_of_ble_eq_true rfl⟩) ⟨cf_blind, cf_pre hPc hK hDc hWd⟩ rfl rfl hl.1 rfl (lv_room (Nat.le_of_ble_eq_true rfl)) dJL_numberOfLeadingZeros_22 ⟨Nat.le_of_ble_eq_true rfl, Nat.le_of_ble_eq_true rfl⟩) (fun r u H locs hw hP hD hS => ?_)
    obtain ⟨rfl, -⟩ := hw
    have hP : va_P D vwCl [] H := hP
    have hD : va_D A [] := hD
    exact hret (nI (32 - bln (uN x / 4294967296))) () _ _ _ _ _ _ ⟨congrArg nI (by have : bln (uN x) = 32 + bln (uN x / 4294967296) := bln_sh (k := 32) (by omega); have := bln_le (n := uN x / 4294967296) (k := 32) (by omega); omega), trivial⟩ (hP.sub [] rfl) (hD.sub [] (by decide) rfl) hS (Nat.le_of_ble_eq_true rfl) (Nat.le_of_ble_eq_true rfl) dJL_numberOfLeadingZeros_25
  · have c7 := nI_z (by omega) c7
    refine lv_bipush (v := nI 32) hx hb dJL_numberOfLeadingZeros_10 (by decide) ?_
    refine lv_lload_n hx hb dJL_numberOfLeadingZeros_12 rfl (lv_at hl 1 rfl) ?_
    refine lv_l2i hx hb dJL_numberOfLeadingZeros_13 rfl ?_
    refine tp_i (show x.toInt32 = (nI (uN x)) from l2i_n x) ?_
    refine kc_i (wc := []) (wr := []) hP hD hS hA [] [] rfl rfl (by decide) (by decide) (by decide) (fun hPc hDc => va_runS (As := [.int (nI (uN x))]) (rest := [.int (nI 32)]) ⟨hx, hb, hml, hown, hts⟩ (c_nlzI l D cJ cB cI cF (uN x) _ (by omega)) (va_cwS 1 hts (wsG_k tw_341 (wsG_k tw_342 (wsG_k tw_19 (wsG_c tw_343)))) rfl rfl rfl (by decide +kernel) ⟨Nat.le_of_ble_eq_true rfl, Nat.le_of_ble_eq_true rfl⟩) ⟨cf_blind, cf_pre hPc hK hDc hWd⟩ rfl rfl hl.1 rfl (lv_room (Nat.le_of_ble_eq_true rfl)) dJL_numberOfLeadingZeros_14 ⟨Nat.le_of_ble_eq_true rfl, Nat.le_of_ble_eq_true rfl⟩) (fun r u H locs hw hP hD hS => ?_)
    obtain ⟨rfl, -⟩ := hw
    have hP : va_P D vwCl [] H := hP
    have hD : va_D A [] := hD
    refine lv_iadd hx hb dJL_numberOfLeadingZeros_17 ?_
    refine tp_i (show ((nI 32) + (nI (32 - bln (uN x)))) = (nI (32 + (32 - bln (uN x)))) from nI_add _ _) ?_
    refine lv_goto (tgt := 25) hx hb dJL_numberOfLeadingZeros_18 (by decide) ?_
    exact hret (nI (32 + (32 - bln (uN x)))) () _ _ _ _ _ _ ⟨congrArg nI (by have := bln_le (n := uN x) (k := 32) (by omega); omega), trivial⟩ (hP.sub [] rfl) (hD.sub [] (by decide) rfl) hS (Nat.le_of_ble_eq_true rfl) (Nat.le_of_ble_eq_true rfl) dJL_numberOfLeadingZeros_25

set_option maxHeartbeats 4000000 in
set_option maxRecDepth 100000 in
theorem c_bits (l : Launch) (D : va_G) (cJ cB cI cF : ClassId) (x : Int64) (sz : Nat) : Met l yCf_bits (Cond.code yCf_bits cCf_bits 2 (some .int) :: wsG) ({ frames := 2, cells := 0, slots := 0, locals := 43 }) (va_Pc [.long x] (cfPre D (cfT cJ cB cI cF) [] sz)) (va_Qi (fun (r : Int32) (u : Unit) => r = nI (bln (uN x)) ∧ True) (fun u t => cfPost D ((fun (u : Unit) => []) u) (va_A [] sz) t) (va_A [] sz)) 0 0 (va_A [] sz) := by
  refine met_i (cc := cCf_bits) (maxL := 2) (S := Unit) (D := D) (wO := fun (u : Unit) => []) (by decide) (Nat.le_of_ble_eq_true rfl) ?_
  intro p e s m below meth c hx hb hml hown hts hlocks hin hWd A hA hsz hP hK hD hS Q hret ls hl
  have hown : s.vm.findClass "ColumnForms" = some m.cls := hown
  have hl : lv_has ls 2 [(0, .long x)] := hl
  have hP : va_P D vwCl [] s.heap := hP
  have hx5 := bln_le (n := uN x) (k := 64) (uN_lt x)
  refine lv_bipush (v := nI 64) hx hb dCf_bits_0 (by decide) ?_
  refine lv_lload_n hx hb dCf_bits_2 rfl (lv_at hl 0 rfl) ?_
  refine kc_i (wc := []) (wr := []) hP hD hS hA [] [] rfl rfl (by decide) (by decide) (by decide) (fun hPc hDc => va_runS (As := [.long x]) (rest := [.int (nI 64)]) ⟨hx, hb, hml, hown, hts⟩ (c_nlzL l D cJ cB cI cF x _) (va_cwS 1 hts (wsG_k tw_338 (wsG_k tw_339 (wsG_k tw_18 (wsG_c tw_340)))) rfl rfl rfl (by decide +kernel) ⟨Nat.le_of_ble_eq_true rfl, Nat.le_of_ble_eq_true rfl⟩) ⟨cf_blind, cf_pre hPc hK hDc hWd⟩ rfl rfl hl.1 rfl (lv_room (Nat.le_of_ble_eq_true rfl)) dCf_bits_3 ⟨Nat.le_of_ble_eq_true rfl, Nat.le_of_ble_eq_true rfl⟩) (fun r u H locs hw hP hD hS => ?_)
  obtain ⟨rfl, -⟩ := hw
  have hP : va_P D vwCl [] H := hP
  have hD : va_D A [] := hD
  refine lv_isub hx hb dCf_bits_6 ?_
  refine tp_i (show ((nI 64) - (nI (64 - bln (uN x)))) = (nI (64 - (64 - bln (uN x)))) from pk_sub (by omega)) ?_
  exact hret (nI (64 - (64 - bln (uN x)))) () _ _ _ _ _ _ ⟨congrArg nI (by omega), trivial⟩ (hP.sub [] rfl) (hD.sub [] (by decide) rfl) hS (Nat.le_of_ble_eq_true rfl) (Nat.le_of_ble_eq_true rfl) dCf_bits_7

set_option maxHeartbeats 4000000 in
set_option maxRecDepth 100000 in
theorem c_whole (l : Launch) (D : va_G) (cJ cB cI cF : ClassId) (k : Nat) (sz : Nat) (hk : k ≤ 2000000) : Met l yCf_wholeBytes (Cond.code yCf_wholeBytes cCf_wholeBytes 1 (some .int) :: wsG) ({ frames := 0, cells := 0, slots := 0, locals := 0 }) (va_Pc [.int (nI k)] (cfPre D (cfT cJ cB cI cF) [] sz)) (va_Qi (fun (r : Int32) (u : Unit) => r = nI ((k + 7) / 8) ∧ True) (fun u t => cfPost D ((fun (u : Unit) => []) u) (va_A [] sz) t) (va_A [] sz)) 0 0 (va_A [] sz) := by
  refine met_i (cc := cCf_wholeBytes) (maxL := 1) (S := Unit) (D := D) (wO := fun (u : Unit) => []) (by decide) (Nat.le_of_ble_eq_true rfl) ?_
  intro p e s m below meth c hx hb hml hown hts hlocks hin hWd A hA hsz hP hK hD hS Q hret ls hl
  have hown : s.vm.findClass "ColumnForms" = some m.cls := hown
  have hl : lv_has ls 1 [(0, .int (nI k))] := hl
  have hP : va_P D vwCl [] s.heap := hP
  refine lv_iload_n hx hb dCf_wholeBytes_0 rfl (lv_at hl 0 rfl) ?_
  refine lv_bipush (v := nI 7) hx hb dCf_wholeBytes_1 (by decide) ?_
  refine lv_iadd hx hb dCf_wholeBytes_3 ?_
  refine tp_i (show ((nI k) + (nI 7)) = (nI (k + 7)) from nI_add _ _) ?_
  refine lv_iconst (v := nI 3) hx hb dCf_wholeBytes_4 (by decide) ?_
  refine lv_ishr hx hb dCf_wholeBytes_5 ?_
  refine tp_i (show ((nI (k + 7)) >>> ((nI 3) &&& 31)) = (nI ((k + 7) / 8)) from pk_shrN (by omega) _ 3 (by decide)) ?_
  exact hret (nI ((k + 7) / 8)) () _ _ _ _ _ _ ⟨rfl, trivial⟩ (hP.sub [] rfl) (hD.sub [] (by decide) rfl) hS (Nat.le_of_ble_eq_true rfl) (Nat.le_of_ble_eq_true rfl) dCf_wholeBytes_6

set_option maxHeartbeats 4000000 in
set_option maxRecDepth 100000 in
theorem c_fill (l : Launch) (D : va_G) (cJ cB cI cF : ClassId) (qa : Nat) (f : Nat → Int32) (x : Int32) (sz : Nat) : Met l yJA_fill (Cond.code yJA_fill cJA_fill 4 none :: wsG) ({ frames := 0, cells := 0, slots := 0, locals := 0 }) (va_Pc [.ref qa, .int x] (cfPre D (cfT cJ cB cI cF) [(qa, .inl (cI, 1024, .inl f))] sz)) (va_Qv (fun (u : (Nat → Int32)) => (∀ j, j < 1024 → u j = x) ∧ True) (fun u t => cfPost D ((fun (u : (Nat → Int32)) => [(qa, .inl (cI, 1024, .inl u))]) u) (va_A [(qa, .inl (cI, 1024, .inl f))] sz) t) (va_A [(qa, .inl (cI, 1024, .inl f))] sz)) 0 0 (va_A [(qa, .inl (cI, 1024, .inl f))] sz) := by
  refine met_v (cc := cJA_fill) (maxL := 4) (S := (Nat → Int32)) (D := D) (wO := fun (u : (Nat → Int32)) => [(qa, .inl (cI, 1024, .inl u))]) (by decide) (Nat.le_of_ble_eq_true rfl) ?_
  intro p e s m below meth c hx hb hml hown hts hlocks hin hWd A hA hsz hP hK hD hS Q hret ls hl
  have hown : s.vm.findClass "java/util/Arrays" = some m.cls := hown
  have hl : lv_has ls 4 [(0, .ref qa), (1, .int x)] := hl
  have hP : va_P D vwCl [(qa, .inl (cI, 1024, .inl f))] s.heap := hP
  refine lv_iconst (v := nI 0) hx hb dJA_fill_0 (by decide) ?_
  refine lv_istore_n (lv' := [(2, .int (nI 0)), (0, .ref qa), (1, .int x)]) hx hb dJA_fill_1 rfl hl (by decide) rfl (fun ls hl => ?_)
  refine lv_aload_n hx hb dJA_fill_2 rfl (lv_at hl 1 rfl) ?_
  refine va_alen hx hb hK hP 0 2 rfl rfl (v := nI 1024) rfl dJA_fill_3 ?_
  refine lv_istore_n (lv' := [(3, .int (nI 1024)), (2, .int (nI 0)), (0, .ref qa), (1, .int x)]) hx hb dJA_fill_4 rfl hl (by decide) rfl (fun ls hl => ?_)
  have lp : ∀ (k_lp : Nat) (i : Nat) (g : Nat → Int32), (i ≤ 1024) → (∀ j, j < i → g j = x) → (1024 - i < k_lp) → ∀ (H : Heap) (locs : List Loc) (ls : Array Slot), va_P D vwCl [(qa, .inl (cI, 1024, .inl g))] H → va_D A [(qa, .inl (cI, 1024, .inl g))] → va_S A s.heap H locs → lv_has ls 4 [(0, .ref qa), (1, .int x), (2, .int (nI i)), (3, .int (nI 1024))] → W p l e ({ frames := 0, cells := 0, slots := 0, locals := 0 }) s m ([.ref qa, .int x].toArray) below meth c H locs (0) (0) Q (F0 m 5 ls []) := by
    intro k_lp
    induction k_lp with
    | zero => intro i g g1 g2 hfu; exact absurd hfu (by omega)
    | succ k_lp ih_lp =>
      intro i g g1 g2 hfu H locs ls hP hD hS hl
      refine lv_iload_n hx hb dJA_fill_5 rfl (lv_at hl 2 rfl) ?_
      refine lv_iload_n hx hb dJA_fill_6 rfl (lv_at hl 3 rfl) ?_
      refine lv_icmp_ge (tgt := 20) hx hb dJA_fill_7 (by decide) (fun c7 => ?_) (fun c7 => ?_)
      · have c7 : 1024 ≤ i := (nI_leI (by omega) (by omega)).mp c7
        exact hret (g) _ _ _ _ _ _ ⟨fun j hj => g2 j (by omega), trivial⟩ (hP.sub [0] rfl) (hD.sub [0] (by decide) rfl) hS (Nat.le_of_ble_eq_true rfl) (Nat.le_of_ble_eq_true rfl) dJA_fill_20
      · have c7 : ¬ 1024 ≤ i := fun h => c7 ((nI_leI (by omega) (by omega)).mpr h)
        refine lv_aload_n hx hb dJA_fill_10 rfl (lv_at hl 0 rfl) ?_
        refine lv_iload_n hx hb dJA_fill_11 rfl (lv_at hl 2 rfl) ?_
        refine lv_iload_n hx hb dJA_fill_12 rfl (lv_at hl 1 rfl) ?_
        refine va_iast hx hb hK hP hD hS 0 2 rfl rfl (vp_in_nI (by omega) (by omega)) dJA_fill_13 (fun H locs hP hD hS => ?_)
        rw [nI_clamp (by omega)] at hP hD
        have hP : va_P D vwCl [(qa, .inl (cI, 1024, .inl (upd g i x)))] H := hP
        have hD : va_D A [(qa, .inl (cI, 1024, .inl (upd g i x)))] := hD
        refine lv_iinc (v := nI (i + 1)) (lv' := [(2, .int (nI (i + 1))), (0, .ref qa), (1, .int x), (3, .int (nI 1024))]) hx hb dJA_fill_14 hl (k := 2) rfl (by rw [show (Int32.ofInt 1) = nI 1 from by decide]; exact nI_add _ _) (by decide) rfl (fun ls hl => ?_)
        refine lv_goto (tgt := 5) hx hb dJA_fill_17 (by decide) ?_
        exact ih_lp (i + 1) (upd g i x) (by omega) (upd_all g2) (by omega) _ _ _ (hP.sub [0] rfl) (hD.sub [0] (by decide) rfl) hS (lv_sub hl [1, 2, 0, 3] rfl)
  exact lp (1024 - 0 + 1) 0 f (by omega) (fun j hj => absurd hj (by omega)) (by omega) _ _ _ (hP.sub [0] rfl) (hD.sub [0] (by decide) rfl) hS (lv_sub hl [2, 3, 1, 0] rfl)
end
section
set_option maxHeartbeats 4000000 in
set_option maxRecDepth 100000 in
theorem c_at (l : Launch) (D : va_G) (cJ cB cI cF : ClassId) (qr : Nat) (n : Nat) (d : Nat) (rn : Nat) (lo : Int64) (hi : Int64) (sl : Int64) (sh : Int64) (qc : Nat) (qs : Nat) (xs : Nat → Int64) (i : Nat) (sz : Nat) (hi1 : i < n) (hn : n ≤ 1024) : Met l yRo_at (Cond.code yRo_at cRo_at 2 (some .long) :: wsG) ({ frames := 0, cells := 0, slots := 0, locals := 0 }) (va_Pc [.ref qr, .int (nI i)] (cfPre D (cfT cJ cB cI cF) [(qr, .inr (5, [.int (nI n), .int (nI d), .int (nI rn), .long lo, .long hi, .long sl, .long sh, .ref qc, .ref qs])), (qc, .inl (cJ, 1024, .inr (.inl xs)))] sz)) (va_Ql (fun (r : Int64) (u : Unit) => r = xs i ∧ True) (fun u t => cfPost D ((fun (u : Unit) => [(qr, .inr (5, [.int (nI n), .int (nI d), .int (nI rn), .long lo, .long hi, .long sl, .long sh, .ref qc, .ref qs])), (qc, .inl (cJ, 1024, .inr (.inl xs)))]) u) (va_A [(qr, .inr (5, [.int (nI n), .int (nI d), .int (nI rn), .long lo, .long hi, .long sl, .long sh, .ref qc, .ref qs])), (qc, .inl (cJ, 1024, .inr (.inl xs)))] sz) t) (va_A [(qr, .inr (5, [.int (nI n), .int (nI d), .int (nI rn), .long lo, .long hi, .long sl, .long sh, .ref qc, .ref qs])), (qc, .inl (cJ, 1024, .inr (.inl xs)))] sz)) 0 0 (va_A [(qr, .inr (5, [.int (nI n), .int (nI d), .int (nI rn), .long lo, .long hi, .long sl, .long sh, .ref qc, .ref qs])), (qc, .inl (cJ, 1024, .inr (.inl xs)))] sz) := by
  refine met_l (cc := cRo_at) (maxL := 2) (S := Unit) (D := D) (wO := fun (u : Unit) => [(qr, .inr (5, [.int (nI n), .int (nI d), .int (nI rn), .long lo, .long hi, .long sl, .long sh, .ref qc, .ref qs])), (qc, .inl (cJ, 1024, .inr (.inl xs)))]) (by decide) (Nat.le_of_ble_eq_true rfl) ?_
  intro p e s m below meth c hx hb hml hown hts hlocks hin hWd A hA hsz hP hK hD hS Q hret ls hl
  have hown : s.vm.findClass "ColumnForms$Row" = some m.cls := hown
  have hl : lv_has ls 2 [(0, .ref qr), (1, .int (nI i))] := hl
  have hP : va_P D vwCl [(qr, .inr (5, [.int (nI n), .int (nI d), .int (nI rn), .long lo, .long hi, .long sl, .long sh, .ref qc, .ref qs])), (qc, .inl (cJ, 1024, .inr (.inl xs)))] s.heap := hP
  refine lv_iload_n hx hb dRo_at_0 rfl (lv_at hl 1 rfl) ?_
  refine lv_if_lt (tgt := 21) hx hb dRo_at_1 (by decide) (fun c1 => ?_) (fun c1 => ?_)
  · have c1 : i < 0 := (nI_ltI (b := 0) (by omega) (by omega)).mp c1
    exact absurd c1 (by omega)
  · have c1 : ¬ i < 0 := fun h => c1 ((nI_ltI (b := 0) (by omega) (by omega)).mpr h)
    refine lv_iload_n hx hb dRo_at_4 rfl (lv_at hl 1 rfl) ?_
    refine lv_aload_n hx hb dRo_at_5 rfl (lv_at hl 0 rfl) ?_
    refine va_get (D := D) (ci := 5) (v := .int (nI n)) (C := "ColumnForms$Row") (T := TRo) (N := 9) hx hb hts inRo hown hK hP 0 rfl rfl 0 (by decide) (hts _ tw_40) (fun _ h9 => h9) rfl dRo_at_6 ?_
    refine lv_icmp_ge (tgt := 21) hx hb dRo_at_9 (by decide) (fun c9 => ?_) (fun c9 => ?_)
    · have c9 : n ≤ i := (nI_leI (by omega) (by omega)).mp c9
      exact absurd c9 (by omega)
    · have c9 : ¬ n ≤ i := fun h => c9 ((nI_leI (by omega) (by omega)).mpr h)
      refine lv_aload_n hx hb dRo_at_12 rfl (lv_at hl 0 rfl) ?_
      refine va_get (D := D) (ci := 5) (v := .ref qc) (C := "ColumnForms$Row") (T := TRo) (N := 9) hx hb hts inRo hown hK hP 0 rfl rfl 7 (by decide) (hts _ tw_55) (fun _ h9 => h9) rfl dRo_at_13 ?_
      refine lv_iload_n hx hb dRo_at_16 rfl (lv_at hl 1 rfl) ?_
      refine va_lald hx hb hK hP 1 0 rfl rfl (vp_in_nI (by omega) (by omega)) dRo_at_17 ?_
      refine tp_l (show (xs (nI i).toNatClampNeg) = (xs i) from congrArg _ (nI_clamp (by omega))) ?_
      refine lv_goto (tgt := 22) hx hb dRo_at_18 (by decide) ?_
      exact hret (xs i) () _ _ _ _ _ _ ⟨rfl, trivial⟩ (hP.sub [0, 1] rfl) (hD.sub [0, 1] (by decide) rfl) hS (Nat.le_of_ble_eq_true rfl) (Nat.le_of_ble_eq_true rfl) dRo_at_22

set_option maxHeartbeats 4000000 in
set_option maxRecDepth 100000 in
theorem c_difAt (l : Launch) (D : va_G) (cJ cB cI cF : ClassId) (qr : Nat) (n : Nat) (d : Nat) (rn : Nat) (lo : Int64) (hi : Int64) (sl : Int64) (sh : Int64) (qc : Nat) (qs : Nat) (rs : Nat → Int64) (i : Nat) (sz : Nat) (hi1 : i < d) (hd : d ≤ 1024) : Met l yRo_differentAt (Cond.code yRo_differentAt cRo_differentAt 2 (some .long) :: wsG) ({ frames := 0, cells := 0, slots := 0, locals := 0 }) (va_Pc [.ref qr, .int (nI i)] (cfPre D (cfT cJ cB cI cF) [(qr, .inr (5, [.int (nI n), .int (nI d), .int (nI rn), .long lo, .long hi, .long sl, .long sh, .ref qc, .ref qs])), (qs, .inl (cJ, 1024, .inr (.inl rs)))] sz)) (va_Ql (fun (r : Int64) (u : Unit) => r = rs i ∧ True) (fun u t => cfPost D ((fun (u : Unit) => [(qr, .inr (5, [.int (nI n), .int (nI d), .int (nI rn), .long lo, .long hi, .long sl, .long sh, .ref qc, .ref qs])), (qs, .inl (cJ, 1024, .inr (.inl rs)))]) u) (va_A [(qr, .inr (5, [.int (nI n), .int (nI d), .int (nI rn), .long lo, .long hi, .long sl, .long sh, .ref qc, .ref qs])), (qs, .inl (cJ, 1024, .inr (.inl rs)))] sz) t) (va_A [(qr, .inr (5, [.int (nI n), .int (nI d), .int (nI rn), .long lo, .long hi, .long sl, .long sh, .ref qc, .ref qs])), (qs, .inl (cJ, 1024, .inr (.inl rs)))] sz)) 0 0 (va_A [(qr, .inr (5, [.int (nI n), .int (nI d), .int (nI rn), .long lo, .long hi, .long sl, .long sh, .ref qc, .ref qs])), (qs, .inl (cJ, 1024, .inr (.inl rs)))] sz) := by
  refine met_l (cc := cRo_differentAt) (maxL := 2) (S := Unit) (D := D) (wO := fun (u : Unit) => [(qr, .inr (5, [.int (nI n), .int (nI d), .int (nI rn), .long lo, .long hi, .long sl, .long sh, .ref qc, .ref qs])), (qs, .inl (cJ, 1024, .inr (.inl rs)))]) (by decide) (Nat.le_of_ble_eq_true rfl) ?_
  intro p e s m below meth c hx hb hml hown hts hlocks hin hWd A hA hsz hP hK hD hS Q hret ls hl
  have hown : s.vm.findClass "ColumnForms$Row" = some m.cls := hown
  have hl : lv_has ls 2 [(0, .ref qr), (1, .int (nI i))] := hl
  have hP : va_P D vwCl [(qr, .inr (5, [.int (nI n), .int (nI d), .int (nI rn), .long lo, .long hi, .long sl, .long sh, .ref qc, .ref qs])), (qs, .inl (cJ, 1024, .inr (.inl rs)))] s.heap := hP
  refine lv_iload_n hx hb dRo_differentAt_0 rfl (lv_at hl 1 rfl) ?_
  refine lv_if_lt (tgt := 21) hx hb dRo_differentAt_1 (by decide) (fun c1 => ?_) (fun c1 => ?_)
  · have c1 : i < 0 := (nI_ltI (b := 0) (by omega) (by omega)).mp c1
    exact absurd c1 (by omega)
  · have c1 : ¬ i < 0 := fun h => c1 ((nI_ltI (b := 0) (by omega) (by omega)).mpr h)
    refine lv_iload_n hx hb dRo_differentAt_4 rfl (lv_at hl 1 rfl) ?_
    refine lv_aload_n hx hb dRo_differentAt_5 rfl (lv_at hl 0 rfl) ?_
    refine va_get (D := D) (ci := 5) (v := .int (nI d)) (C := "ColumnForms$Row") (T := TRo) (N := 9) hx hb hts inRo hown hK hP 0 rfl rfl 1 (by decide) (hts _ tw_44) (fun _ h9 => h9) rfl dRo_differentAt_6 ?_
    refine lv_icmp_ge (tgt := 21) hx hb dRo_differentAt_9 (by decide) (fun c9 => ?_) (fun c9 => ?_)
    · have c9 : d ≤ i := (nI_leI (by omega) (by omega)).mp c9
      exact absurd c9 (by omega)
    · have c9 : ¬ d ≤ i := fun h => c9 ((nI_leI (by omega) (by omega)).mpr h)
      refine lv_aload_n hx hb dRo_differentAt_12 rfl (lv_at hl 0 rfl) ?_
      refine va_get (D := D) (ci := 5) (v := .ref qs) (C := "ColumnForms$Row") (T := TRo) (N := 9) hx hb hts inRo hown hK hP 0 rfl rfl 8 (by decide) (hts _ tw_56) (fun _ h9 => h9) rfl dRo_differentAt_13 ?_
      refine lv_iload_n hx hb dRo_differentAt_16 rfl (lv_at hl 1 rfl) ?_
      refine va_lald hx hb hK hP 1 0 rfl rfl (vp_in_nI (by omega) (by omega)) dRo_differentAt_17 ?_
      refine tp_l (show (rs (nI i).toNatClampNeg) = (rs i) from congrArg _ (nI_clamp (by omega))) ?_
      refine lv_goto (tgt := 22) hx hb dRo_differentAt_18 (by decide) ?_
      exact hret (rs i) () _ _ _ _ _ _ ⟨rfl, trivial⟩ (hP.sub [0, 1] rfl) (hD.sub [0, 1] (by decide) rfl) hS (Nat.le_of_ble_eq_true rfl) (Nat.le_of_ble_eq_true rfl) dRo_differentAt_22

set_option maxHeartbeats 4000000 in
set_option maxRecDepth 100000 in
theorem c_placeOf (l : Launch) (D : va_G) (cJ cB cI cF : ClassId) (qr : Nat) (n : Nat) (d : Nat) (rn : Nat) (lo : Int64) (hi : Int64) (sl : Int64) (sh : Int64) (qc : Nat) (qs : Nat) (rs : Nat → Int64) (v : Int64) (t : Nat) (sz : Nat) (hd : d ≤ 1024) (ht : rPl rs d v t) : Met l yRo_placeOf (Cond.code yRo_placeOf cRo_placeOf 5 (some .int) :: wsG) ({ frames := 1, cells := 0, slots := 0, locals := 21 }) (va_Pc [.ref qr, .long v] (cfPre D (cfT cJ cB cI cF) [(qr, .inr (5, [.int (nI n), .int (nI d), .int (nI rn), .long lo, .long hi, .long sl, .long sh, .ref qc, .ref qs])), (qs, .inl (cJ, 1024, .inr (.inl rs)))] sz)) (va_Qi (fun (r : Int32) (u : Unit) => r = nI t ∧ True) (fun u t => cfPost D ((fun (u : Unit) => [(qr, .inr (5, [.int (nI n), .int (nI d), .int (nI rn), .long lo, .long hi, .long sl, .long sh, .ref qc, .ref qs])), (qs, .inl (cJ, 1024, .inr (.inl rs)))]) u) (va_A [(qr, .inr (5, [.int (nI n), .int (nI d), .int (nI rn), .long lo, .long hi, .long sl, .long sh, .ref qc, .ref qs])), (qs, .inl (cJ, 1024, .inr (.inl rs)))] sz) t) (va_A [(qr, .inr (5, [.int (nI n), .int (nI d), .int (nI rn), .long lo, .long hi, .long sl, .long sh, .ref qc, .ref qs])), (qs, .inl (cJ, 1024, .inr (.inl rs)))] sz)) 0 0 (va_A [(qr, .inr (5, [.int (nI n), .int (nI d), .int (nI rn), .long lo, .long hi, .long sl, .long sh, .ref qc, .ref qs])), (qs, .inl (cJ, 1024, .inr (.inl rs)))] sz) := by
  refine met_i (cc := cRo_placeOf) (maxL := 5) (S := Unit) (D := D) (wO := fun (u : Unit) => [(qr, .inr (5, [.int (nI n), .int (nI d), .int (nI rn), .long lo, .long hi, .long sl, .long sh, .ref qc, .ref qs])), (qs, .inl (cJ, 1024, .inr (.inl rs)))]) (by decide) (Nat.le_of_ble_eq_true rfl) ?_
  intro p e s m below meth c hx hb hml hown hts hlocks hin hWd A hA hsz hP hK hD hS Q hret ls hl
  have hown : s.vm.findClass "ColumnForms$Row" = some m.cls := hown
  have hl : lv_has ls 5 [(0, .ref qr), (1, .long v)] := hl
  have hP : va_P D vwCl [(qr, .inr (5, [.int (nI n), .int (nI d), .int (nI rn), .long lo, .long hi, .long sl, .long sh, .ref qc, .ref qs])), (qs, .inl (cJ, 1024, .inr (.inl rs)))] s.heap := hP
  have ht1 := ht.1
  refine lv_iconst (v := nI 0) hx hb dRo_placeOf_0 (by decide) ?_
  refine lv_istore_n (lv' := [(3, .int (nI 0)), (0, .ref qr), (1, .long v)]) hx hb dRo_placeOf_1 rfl hl (by decide) rfl (fun ls hl => ?_)
  refine lv_sipush (v := nI 1024) hx hb dRo_placeOf_2 (by decide) ?_
  refine lv_istore (lv' := [(4, .int (nI 1024)), (3, .int (nI 0)), (0, .ref qr), (1, .long v)]) hx hb dRo_placeOf_5 hl (by decide) rfl (fun ls hl => ?_)
  have lp : ∀ (k_lp : Nat) (pl : Nat) (jj : Nat), (pl ≤ t) → (t < pl + 2 * jj + (1 - jj)) → (jj ≤ 1024) → (isPw jj) → (jj < k_lp) → ∀ (H : Heap) (locs : List Loc) (ls : Array Slot), va_P D vwCl [(qr, .inr (5, [.int (nI n), .int (nI d), .int (nI rn), .long lo, .long hi, .long sl, .long sh, .ref qc, .ref qs])), (qs, .inl (cJ, 1024, .inr (.inl rs)))] H → va_D A [(qr, .inr (5, [.int (nI n), .int (nI d), .int (nI rn), .long lo, .long hi, .long sl, .long sh, .ref qc, .ref qs])), (qs, .inl (cJ, 1024, .inr (.inl rs)))] → va_S A s.heap H locs → lv_has ls 5 [(0, .ref qr), (1, .long v), (3, .int (nI pl)), (4, .int (nI jj))] → W p l e ({ frames := 1, cells := 0, slots := 0, locals := 21 }) s m ([.ref qr, .long v].toArray) below meth c H locs (0) (0) Q (F0 m 7 ls []) := by
    intro k_lp
    induction k_lp with
    | zero => intro pl jj h1 h2 h3 h4 hfu; exact absurd hfu (by omega)
    | succ k_lp ih_lp =>
      intro pl jj h1 h2 h3 h4 hfu H locs ls hP hD hS hl
      have ht1 := ht.1
      refine lv_iload hx hb dRo_placeOf_7 (lv_at hl 3 rfl) ?_
      refine lv_if_le (tgt := 52) hx hb dRo_placeOf_9 (by decide) (fun c9 => ?_) (fun c9 => ?_)
      · have c9 : jj ≤ 0 := (nI_leI (b := 0) (by omega) (by omega)).mp c9
        refine lv_iload_n hx hb dRo_placeOf_52 rfl (lv_at hl 2 rfl) ?_
        exact hret (nI pl) () _ _ _ _ _ _ ⟨congrArg nI (by omega), trivial⟩ (hP.sub [0, 1] rfl) (hD.sub [0, 1] (by decide) rfl) hS (Nat.le_of_ble_eq_true rfl) (Nat.le_of_ble_eq_true rfl) dRo_placeOf_53
      · have c9 : ¬ jj ≤ 0 := fun h => c9 ((nI_leI (b := 0) (by omega) (by omega)).mpr h)
        refine lv_iload_n hx hb dRo_placeOf_12 rfl (lv_at hl 2 rfl) ?_
        refine lv_iload hx hb dRo_placeOf_13 (lv_at hl 3 rfl) ?_
        refine lv_iadd hx hb dRo_placeOf_15 ?_
        refine tp_i (show ((nI pl) + (nI jj)) = (nI (pl + jj)) from nI_add _ _) ?_
        refine lv_aload_n hx hb dRo_placeOf_16 rfl (lv_at hl 0 rfl) ?_
        refine va_get (D := D) (ci := 5) (v := .int (nI d)) (C := "ColumnForms$Row") (T := TRo) (N := 9) hx hb hts inRo hown hK hP 0 rfl rfl 1 (by decide) (hts _ tw_44) (fun _ h9 => h9) rfl dRo_placeOf_17 ?_
        refine lv_icmp_gt (tgt := 43) hx hb dRo_placeOf_20 (by decide) (fun c20 => ?_) (fun c20 => ?_)
        · have c20 : d < (pl + jj) := (nI_ltI (by omega) (by omega)).mp c20
          refine lv_iload hx hb dRo_placeOf_43 (lv_at hl 3 rfl) ?_
          refine lv_iconst (v := nI 1) hx hb dRo_placeOf_45 (by decide) ?_
          refine lv_ishr hx hb dRo_placeOf_46 ?_
          refine tp_i (show ((nI jj) >>> ((nI 1) &&& 31)) = (nI (jj / 2)) from pk_shrN (by omega) _ 1 (by decide)) ?_
          refine lv_istore (lv' := [(4, .int (nI (jj / 2))), (0, .ref qr), (1, .long v), (3, .int (nI pl))]) hx hb dRo_placeOf_47 hl (by decide) rfl (fun ls hl => ?_)
          refine lv_goto (tgt := 7) hx hb dRo_placeOf_49 (by decide) ?_
          exact ih_lp pl (jj / 2) (h1) (by have := rBs_dn ht (p := pl) (j := jj) (by omega) (Or.inl (by omega)); have := (pw_half h4 (by omega)).1; omega) (by omega) ((pw_half h4 (by omega)).2) (by omega) _ _ _ (hP.sub [0, 1] rfl) (hD.sub [0, 1] (by decide) rfl) hS (lv_sub hl [1, 2, 3, 0] rfl)
        · have c20 : ¬ d < (pl + jj) := fun h => c20 ((nI_ltI (by omega) (by omega)).mpr h)
          refine lv_aload_n hx hb dRo_placeOf_23 rfl (lv_at hl 0 rfl) ?_
          refine lv_iload_n hx hb dRo_placeOf_24 rfl (lv_at hl 2 rfl) ?_
          refine lv_iload hx hb dRo_placeOf_25 (lv_at hl 3 rfl) ?_
          refine lv_iadd hx hb dRo_placeOf_27 ?_
          refine tp_i (show ((nI pl) + (nI jj)) = (nI (pl + jj)) from nI_add _ _) ?_
          refine lv_iconst (v := nI 1) hx hb dRo_placeOf_28 (by decide) ?_
          refine lv_isub hx hb dRo_placeOf_29 ?_
          refine tp_i (show ((nI (pl + jj)) - (nI 1)) = (nI ((pl + jj) - 1)) from pk_sub (by omega)) ?_
          refine kc_l (wc := [(qr, .inr (5, [.int (nI n), .int (nI d), .int (nI rn), .long lo, .long hi, .long sl, .long sh, .ref qc, .ref qs])), (qs, .inl (cJ, 1024, .inr (.inl rs)))]) (wr := []) hP hD hS hA [0, 1] [] rfl rfl (by decide) (by decide) (by decide) (fun hPc hDc => va_runV (As := [.int (nI ((pl + jj) - 1))]) (rest := []) ⟨hx, hb, hml, hown, hts⟩ (c_difAt l D cJ cB cI cF qr n d rn lo hi sl sh qc qs rs ((pl + jj) - 1) _ (by omega) (hd)) (cwV 1 hts (wsG_k tw_274 (wsG_k tw_275 (wsG_k tw_276 (wsG_k tw_2 (wsG_c tw_277))))) rfl rfl rfl (by decide +kernel) ⟨Nat.le_of_ble_eq_true rfl, Nat.le_of_ble_eq_true rfl⟩) ⟨cf_blind, va_recv hK hPc (ci := 5) (q0 := 0) rfl rfl, cf_pre hPc hK hDc hWd⟩ rfl rfl hl.1 rfl (lv_room (Nat.le_of_ble_eq_true rfl)) dRo_placeOf_30 ⟨Nat.le_of_ble_eq_true rfl, Nat.le_of_ble_eq_true rfl⟩) (fun r u H locs hw hP hD hS => ?_)
          obtain ⟨rfl, -⟩ := hw
          have hP : va_P D vwCl [(qr, .inr (5, [.int (nI n), .int (nI d), .int (nI rn), .long lo, .long hi, .long sl, .long sh, .ref qc, .ref qs])), (qs, .inl (cJ, 1024, .inr (.inl rs)))] H := hP
          have hD : va_D A [(qr, .inr (5, [.int (nI n), .int (nI d), .int (nI rn), .long lo, .long hi, .long sl, .long sh, .ref qc, .ref qs])), (qs, .inl (cJ, 1024, .inr (.inl rs)))] := hD
          refine lv_lload_n hx hb dRo_placeOf_33 rfl (lv_at hl 1 rfl) ?_
          refine W.lcmp hx hb dRo_placeOf_34 ?_
          refine lv_if_ge (tgt := 43) hx hb dRo_placeOf_35 (by decide) (fun c35 => ?_) (fun c35 => ?_)
          · have c35 : v ≤ (rs ((pl + jj) - 1)) := (lg_cmp_ge _ _).mp c35
            refine lv_iload hx hb dRo_placeOf_43 (lv_at hl 3 rfl) ?_
            refine lv_iconst (v := nI 1) hx hb dRo_placeOf_45 (by decide) ?_
            refine lv_ishr hx hb dRo_placeOf_46 ?_
            refine tp_i (show ((nI jj) >>> ((nI 1) &&& 31)) = (nI (jj / 2)) from pk_shrN (by omega) _ 1 (by decide)) ?_
            refine lv_istore (lv' := [(4, .int (nI (jj / 2))), (0, .ref qr), (1, .long v), (3, .int (nI pl))]) hx hb dRo_placeOf_47 hl (by decide) rfl (fun ls hl => ?_)
            refine lv_goto (tgt := 7) hx hb dRo_placeOf_49 (by decide) ?_
            exact ih_lp pl (jj / 2) (h1) (by have := rBs_dn ht (p := pl) (j := jj) (by omega) (Or.inr (Int64.not_lt.mpr c35)); have := (pw_half h4 (by omega)).1; omega) (by omega) ((pw_half h4 (by omega)).2) (by omega) _ _ _ (hP.sub [0, 1] rfl) (hD.sub [0, 1] (by decide) rfl) hS (lv_sub hl [1, 2, 3, 0] rfl)
          · have c35 : ¬ v ≤ (rs ((pl + jj) - 1)) := fun h => c35 ((lg_cmp_ge _ _).mpr h)
            refine lv_iload_n hx hb dRo_placeOf_38 rfl (lv_at hl 2 rfl) ?_
            refine lv_iload hx hb dRo_placeOf_39 (lv_at hl 3 rfl) ?_
            refine lv_iadd hx hb dRo_placeOf_41 ?_
            refine tp_i (show ((nI pl) + (nI jj)) = (nI (pl + jj)) from nI_add _ _) ?_
            refine lv_istore_n (lv' := [(3, .int (nI (pl + jj))), (0, .ref qr), (1, .long v), (4, .int (nI jj))]) hx hb dRo_placeOf_42 rfl hl (by decide) rfl (fun ls hl => ?_)
            refine lv_iload hx hb dRo_placeOf_43 (lv_at hl 3 rfl) ?_
            refine lv_iconst (v := nI 1) hx hb dRo_placeOf_45 (by decide) ?_
            refine lv_ishr hx hb dRo_placeOf_46 ?_
            refine tp_i (show ((nI jj) >>> ((nI 1) &&& 31)) = (nI (jj / 2)) from pk_shrN (by omega) _ 1 (by decide)) ?_
            refine lv_istore (lv' := [(4, .int (nI (jj / 2))), (3, .int (nI (pl + jj))), (0, .ref qr), (1, .long v)]) hx hb dRo_placeOf_47 hl (by decide) rfl (fun ls hl => ?_)
            refine lv_goto (tgt := 7) hx hb dRo_placeOf_49 (by decide) ?_
            exact ih_lp (pl + jj) (jj / 2) (rBs_up ht (by omega) (by omega) (Int64.not_le.mp c35)) (by have := (pw_half h4 (by omega)).1; omega) (by omega) ((pw_half h4 (by omega)).2) (by omega) _ _ _ (hP.sub [0, 1] rfl) (hD.sub [0, 1] (by decide) rfl) hS (lv_sub hl [2, 3, 1, 0] rfl)
  exact lp (1024 + 1) 0 1024 (Nat.zero_le t) (by omega) (by omega) (Or.inr ⟨10, rfl⟩) (by omega) _ _ _ (hP.sub [0, 1] rfl) (hD.sub [0, 1] (by decide) rfl) hS (lv_sub hl [2, 3, 1, 0] rfl)

set_option maxHeartbeats 4000000 in
set_option maxRecDepth 100000 in
theorem c_empty (l : Launch) (D : va_G) (cJ cB cI cF : ClassId) (qr : Nat) (n : Nat) (d : Nat) (rn : Nat) (lo : Int64) (hi : Int64) (sl : Int64) (sh : Int64) (qc : Nat) (qs : Nat) (sz : Nat) : Met l yRo_empty (Cond.code yRo_empty cRo_empty 1 none :: wsG) ({ frames := 0, cells := 0, slots := 0, locals := 0 }) (va_Pc [.ref qr] (cfPre D (cfT cJ cB cI cF) [(qr, .inr (5, [.int (nI n), .int (nI d), .int (nI rn), .long lo, .long hi, .long sl, .long sh, .ref qc, .ref qs]))] sz)) (va_Qv (fun (u : Unit) => True) (fun u t => cfPost D ((fun (u : Unit) => [(qr, .inr (5, [.int (nI 0), .int (nI 0), .int (nI 0), .long lo, .long hi, .long sl, .long sh, .ref qc, .ref qs]))]) u) (va_A [(qr, .inr (5, [.int (nI n), .int (nI d), .int (nI rn), .long lo, .long hi, .long sl, .long sh, .ref qc, .ref qs]))] sz) t) (va_A [(qr, .inr (5, [.int (nI n), .int (nI d), .int (nI rn), .long lo, .long hi, .long sl, .long sh, .ref qc, .ref qs]))] sz)) 0 0 (va_A [(qr, .inr (5, [.int (nI n), .int (nI d), .int (nI rn), .long lo, .long hi, .long sl, .long sh, .ref qc, .ref qs]))] sz) := by
  refine met_v (cc := cRo_empty) (maxL := 1) (S := Unit) (D := D) (wO := fun (u : Unit) => [(qr, .inr (5, [.int (nI 0), .int (nI 0), .int (nI 0), .long lo, .long hi, .long sl, .long sh, .ref qc, .ref qs]))]) (by decide) (Nat.le_of_ble_eq_true rfl) ?_
  intro p e s m below meth c hx hb hml hown hts hlocks hin hWd A hA hsz hP hK hD hS Q hret ls hl
  have hown : s.vm.findClass "ColumnForms$Row" = some m.cls := hown
  have hl : lv_has ls 1 [(0, .ref qr)] := hl
  have hP : va_P D vwCl [(qr, .inr (5, [.int (nI n), .int (nI d), .int (nI rn), .long lo, .long hi, .long sl, .long sh, .ref qc, .ref qs]))] s.heap := hP
  refine lv_aload_n hx hb dRo_empty_0 rfl (lv_at hl 0 rfl) ?_
  refine lv_iconst (v := nI 0) hx hb dRo_empty_1 (by decide) ?_
  refine va_put (D := D) (ci := 5) (v := .int (nI 0)) (ty := .int) (C := "ColumnForms$Row") (T := TRo) (N := 9) hx hb hts inRo tyRo tyRo_ok nmRo hown hK hP hD hS 0 rfl rfl 0 (by decide) (hts _ tw_40) (fun _ h9 => h9) rfl (by decide +kernel) rfl rfl (Nat.le_of_ble_eq_true rfl) dRo_empty_2 (fun H locs hP hD hS => ?_)
  have hP : va_P D vwCl [(qr, .inr (5, [.int (nI 0), .int (nI d), .int (nI rn), .long lo, .long hi, .long sl, .long sh, .ref qc, .ref qs]))] H := hP
  have hD : va_D A [(qr, .inr (5, [.int (nI 0), .int (nI d), .int (nI rn), .long lo, .long hi, .long sl, .long sh, .ref qc, .ref qs]))] := hD
  refine lv_aload_n hx hb dRo_empty_5 rfl (lv_at hl 0 rfl) ?_
  refine lv_iconst (v := nI 0) hx hb dRo_empty_6 (by decide) ?_
  refine va_put (D := D) (ci := 5) (v := .int (nI 0)) (ty := .int) (C := "ColumnForms$Row") (T := TRo) (N := 9) hx hb hts inRo tyRo tyRo_ok nmRo hown hK hP hD hS 0 rfl rfl 1 (by decide) (hts _ tw_44) (fun _ h9 => h9) rfl (by decide +kernel) rfl rfl (Nat.le_of_ble_eq_true rfl) dRo_empty_7 (fun H locs hP hD hS => ?_)
  have hP : va_P D vwCl [(qr, .inr (5, [.int (nI 0), .int (nI 0), .int (nI rn), .long lo, .long hi, .long sl, .long sh, .ref qc, .ref qs]))] H := hP
  have hD : va_D A [(qr, .inr (5, [.int (nI 0), .int (nI 0), .int (nI rn), .long lo, .long hi, .long sl, .long sh, .ref qc, .ref qs]))] := hD
  refine lv_aload_n hx hb dRo_empty_10 rfl (lv_at hl 0 rfl) ?_
  refine lv_iconst (v := nI 0) hx hb dRo_empty_11 (by decide) ?_
  refine va_put (D := D) (ci := 5) (v := .int (nI 0)) (ty := .int) (C := "ColumnForms$Row") (T := TRo) (N := 9) hx hb hts inRo tyRo tyRo_ok nmRo hown hK hP hD hS 0 rfl rfl 2 (by decide) (hts _ tw_46) (fun _ h9 => h9) rfl (by decide +kernel) rfl rfl (Nat.le_of_ble_eq_true rfl) dRo_empty_12 (fun H locs hP hD hS => ?_)
  have hP : va_P D vwCl [(qr, .inr (5, [.int (nI 0), .int (nI 0), .int (nI 0), .long lo, .long hi, .long sl, .long sh, .ref qc, .ref qs]))] H := hP
  have hD : va_D A [(qr, .inr (5, [.int (nI 0), .int (nI 0), .int (nI 0), .long lo, .long hi, .long sl, .long sh, .ref qc, .ref qs]))] := hD
  exact hret () _ _ _ _ _ _ trivial (hP.sub [0] rfl) (hD.sub [0] (by decide) rfl) hS (Nat.le_of_ble_eq_true rfl) (Nat.le_of_ble_eq_true rfl) dRo_empty_15

set_option maxHeartbeats 4000000 in
set_option maxRecDepth 100000 in
theorem c_noteFirst (l : Launch) (D : va_G) (cJ cB cI cF : ClassId) (qr : Nat) (n : Nat) (d : Nat) (rn : Nat) (lo : Int64) (hi : Int64) (sl : Int64) (sh : Int64) (qc : Nat) (qs : Nat) (v : Int64) (sz : Nat) : Met l yRo_noteFirst (Cond.code yRo_noteFirst cRo_noteFirst 3 none :: wsG) ({ frames := 0, cells := 0, slots := 0, locals := 0 }) (va_Pc [.ref qr, .long v] (cfPre D (cfT cJ cB cI cF) [(qr, .inr (5, [.int (nI n), .int (nI d), .int (nI rn), .long lo, .long hi, .long sl, .long sh, .ref qc, .ref qs]))] sz)) (va_Qv (fun (u : Unit) => True) (fun u t => cfPost D ((fun (u : Unit) => [(qr, .inr (5, [.int (nI n), .int (nI d), .int (nI 1), .long v, .long v, .long 0, .long 0, .ref qc, .ref qs]))]) u) (va_A [(qr, .inr (5, [.int (nI n), .int (nI d), .int (nI rn), .long lo, .long hi, .long sl, .long sh, .ref qc, .ref qs]))] sz) t) (va_A [(qr, .inr (5, [.int (nI n), .int (nI d), .int (nI rn), .long lo, .long hi, .long sl, .long sh, .ref qc, .ref qs]))] sz)) 0 0 (va_A [(qr, .inr (5, [.int (nI n), .int (nI d), .int (nI rn), .long lo, .long hi, .long sl, .long sh, .ref qc, .ref qs]))] sz) := by
  refine met_v (cc := cRo_noteFirst) (maxL := 3) (S := Unit) (D := D) (wO := fun (u : Unit) => [(qr, .inr (5, [.int (nI n), .int (nI d), .int (nI 1), .long v, .long v, .long 0, .long 0, .ref qc, .ref qs]))]) (by decide) (Nat.le_of_ble_eq_true rfl) ?_
  intro p e s m below meth c hx hb hml hown hts hlocks hin hWd A hA hsz hP hK hD hS Q hret ls hl
  have hown : s.vm.findClass "ColumnForms$Row" = some m.cls := hown
  have hl : lv_has ls 3 [(0, .ref qr), (1, .long v)] := hl
  have hP : va_P D vwCl [(qr, .inr (5, [.int (nI n), .int (nI d), .int (nI rn), .long lo, .long hi, .long sl, .long sh, .ref qc, .ref qs]))] s.heap := hP
  refine lv_aload_n hx hb dRo_noteFirst_0 rfl (lv_at hl 0 rfl) ?_
  refine lv_iconst (v := nI 1) hx hb dRo_noteFirst_1 (by decide) ?_
  refine va_put (D := D) (ci := 5) (v := .int (nI 1)) (ty := .int) (C := "ColumnForms$Row") (T := TRo) (N := 9) hx hb hts inRo tyRo tyRo_ok nmRo hown hK hP hD hS 0 rfl rfl 2 (by decide) (hts _ tw_46) (fun _ h9 => h9) rfl (by decide +kernel) rfl rfl (Nat.le_of_ble_eq_true rfl) dRo_noteFirst_2 (fun H locs hP hD hS => ?_)
  have hP : va_P D vwCl [(qr, .inr (5, [.int (nI n), .int (nI d), .int (nI 1), .long lo, .long hi, .long sl, .long sh, .ref qc, .ref qs]))] H := hP
  have hD : va_D A [(qr, .inr (5, [.int (nI n), .int (nI d), .int (nI 1), .long lo, .long hi, .long sl, .long sh, .ref qc, .ref qs]))] := hD
  refine lv_aload_n hx hb dRo_noteFirst_5 rfl (lv_at hl 0 rfl) ?_
  refine lv_lload_n hx hb dRo_noteFirst_6 rfl (lv_at hl 1 rfl) ?_
  refine va_put (D := D) (ci := 5) (v := .long v) (ty := .long) (C := "ColumnForms$Row") (T := TRo) (N := 9) hx hb hts inRo tyRo tyRo_ok nmRo hown hK hP hD hS 0 rfl rfl 3 (by decide) (hts _ tw_48) (fun _ h9 => h9) rfl (by decide +kernel) rfl rfl (Nat.le_of_ble_eq_true rfl) dRo_noteFirst_7 (fun H locs hP hD hS => ?_)
  have hP : va_P D vwCl [(qr, .inr (5, [.int (nI n), .int (nI d), .int (nI 1), .long v, .long hi, .long sl, .long sh, .ref qc, .ref qs]))] H := hP
  have hD : va_D A [(qr, .inr (5, [.int (nI n), .int (nI d), .int (nI 1), .long v, .long hi, .long sl, .long sh, .ref qc, .ref qs]))] := hD
  refine lv_aload_n hx hb dRo_noteFirst_10 rfl (lv_at hl 0 rfl) ?_
  refine lv_lload_n hx hb dRo_noteFirst_11 rfl (lv_at hl 1 rfl) ?_
  refine va_put (D := D) (ci := 5) (v := .long v) (ty := .long) (C := "ColumnForms$Row") (T := TRo) (N := 9) hx hb hts inRo tyRo tyRo_ok nmRo hown hK hP hD hS 0 rfl rfl 4 (by decide) (hts _ tw_50) (fun _ h9 => h9) rfl (by decide +kernel) rfl rfl (Nat.le_of_ble_eq_true rfl) dRo_noteFirst_12 (fun H locs hP hD hS => ?_)
  have hP : va_P D vwCl [(qr, .inr (5, [.int (nI n), .int (nI d), .int (nI 1), .long v, .long v, .long sl, .long sh, .ref qc, .ref qs]))] H := hP
  have hD : va_D A [(qr, .inr (5, [.int (nI n), .int (nI d), .int (nI 1), .long v, .long v, .long sl, .long sh, .ref qc, .ref qs]))] := hD
  refine lv_aload_n hx hb dRo_noteFirst_15 rfl (lv_at hl 0 rfl) ?_
  refine lv_lconst (v := 0) hx hb dRo_noteFirst_16 (by decide) ?_
  refine va_put (D := D) (ci := 5) (v := .long 0) (ty := .long) (C := "ColumnForms$Row") (T := TRo) (N := 9) hx hb hts inRo tyRo tyRo_ok nmRo hown hK hP hD hS 0 rfl rfl 5 (by decide) (hts _ tw_52) (fun _ h9 => h9) rfl (by decide +kernel) rfl rfl (Nat.le_of_ble_eq_true rfl) dRo_noteFirst_17 (fun H locs hP hD hS => ?_)
  have hP : va_P D vwCl [(qr, .inr (5, [.int (nI n), .int (nI d), .int (nI 1), .long v, .long v, .long 0, .long sh, .ref qc, .ref qs]))] H := hP
  have hD : va_D A [(qr, .inr (5, [.int (nI n), .int (nI d), .int (nI 1), .long v, .long v, .long 0, .long sh, .ref qc, .ref qs]))] := hD
  refine lv_aload_n hx hb dRo_noteFirst_20 rfl (lv_at hl 0 rfl) ?_
  refine lv_lconst (v := 0) hx hb dRo_noteFirst_21 (by decide) ?_
  refine va_put (D := D) (ci := 5) (v := .long 0) (ty := .long) (C := "ColumnForms$Row") (T := TRo) (N := 9) hx hb hts inRo tyRo tyRo_ok nmRo hown hK hP hD hS 0 rfl rfl 6 (by decide) (hts _ tw_54) (fun _ h9 => h9) rfl (by decide +kernel) rfl rfl (Nat.le_of_ble_eq_true rfl) dRo_noteFirst_22 (fun H locs hP hD hS => ?_)
  have hP : va_P D vwCl [(qr, .inr (5, [.int (nI n), .int (nI d), .int (nI 1), .long v, .long v, .long 0, .long 0, .ref qc, .ref qs]))] H := hP
  have hD : va_D A [(qr, .inr (5, [.int (nI n), .int (nI d), .int (nI 1), .long v, .long v, .long 0, .long 0, .ref qc, .ref qs]))] := hD
  exact hret () _ _ _ _ _ _ trivial (hP.sub [0] rfl) (hD.sub [0] (by decide) rfl) hS (Nat.le_of_ble_eq_true rfl) (Nat.le_of_ble_eq_true rfl) dRo_noteFirst_25

set_option maxHeartbeats 4000000 in
set_option maxRecDepth 100000 in
theorem c_noteNext (l : Launch) (D : va_G) (cJ cB cI cF : ClassId) (qr : Nat) (n : Nat) (d : Nat) (rn : Nat) (lo : Int64) (hi : Int64) (sl : Int64) (sh : Int64) (qc : Nat) (qs : Nat) (v : Int64) (st : Int64) (sz : Nat) (hn0 : 0 < n) (hn : n ≤ 1024) (hr : rn ≤ 1024) : Met l yRo_noteNext (Cond.code yRo_noteNext cRo_noteNext 5 none :: wsG) ({ frames := 1, cells := 0, slots := 0, locals := 16 }) (va_Pc [.ref qr, .long v, .long st] (cfPre D (cfT cJ cB cI cF) [(qr, .inr (5, [.int (nI n), .int (nI d), .int (nI rn), .long lo, .long hi, .long sl, .long sh, .ref qc, .ref qs]))] sz)) (va_Qv (fun (u : Nat × Int64 × Int64) => (u.1 = rn + (if st = 0 then 0 else 1)) ∧ (u.2.1 = if n = 1 then st else lMin sl st) ∧ (u.2.2 = if n = 1 then st else lMax sh st) ∧ True) (fun u t => cfPost D ((fun (u : Nat × Int64 × Int64) => [(qr, .inr (5, [.int (nI n), .int (nI d), .int (nI u.1), .long (lMin lo v), .long (lMax hi v), .long u.2.1, .long u.2.2, .ref qc, .ref qs]))]) u) (va_A [(qr, .inr (5, [.int (nI n), .int (nI d), .int (nI rn), .long lo, .long hi, .long sl, .long sh, .ref qc, .ref qs]))] sz) t) (va_A [(qr, .inr (5, [.int (nI n), .int (nI d), .int (nI rn), .long lo, .long hi, .long sl, .long sh, .ref qc, .ref qs]))] sz)) 0 0 (va_A [(qr, .inr (5, [.int (nI n), .int (nI d), .int (nI rn), .long lo, .long hi, .long sl, .long sh, .ref qc, .ref qs]))] sz) := by
  refine met_v (cc := cRo_noteNext) (maxL := 5) (S := Nat × Int64 × Int64) (D := D) (wO := fun (u : Nat × Int64 × Int64) => [(qr, .inr (5, [.int (nI n), .int (nI d), .int (nI u.1), .long (lMin lo v), .long (lMax hi v), .long u.2.1, .long u.2.2, .ref qc, .ref qs]))]) (by decide) (Nat.le_of_ble_eq_true rfl) ?_
  intro p e s m below meth c hx hb hml hown hts hlocks hin hWd A hA hsz hP hK hD hS Q hret ls hl
  have hown : s.vm.findClass "ColumnForms$Row" = some m.cls := hown
  have hl : lv_has ls 5 [(0, .ref qr), (1, .long v), (3, .long st)] := hl
  have hP : va_P D vwCl [(qr, .inr (5, [.int (nI n), .int (nI d), .int (nI rn), .long lo, .long hi, .long sl, .long sh, .ref qc, .ref qs]))] s.heap := hP
  refine lv_lload_n hx hb dRo_noteNext_0 rfl (lv_at hl 2 rfl) ?_
  refine lv_lconst (v := 0) hx hb dRo_noteNext_1 (by decide) ?_
  refine W.lcmp hx hb dRo_noteNext_2 ?_
  refine lv_if_eq (tgt := 16) hx hb dRo_noteNext_3 (by decide) (fun c3 => ?_) (fun c3 => ?_)
  · have c3 : st = 0 := (lg_cmp_eq _ _).mp c3
    refine lv_aload_n hx hb dRo_noteNext_16 rfl (lv_at hl 0 rfl) ?_
    refine lv_aload_n hx hb dRo_noteNext_17 rfl (lv_at hl 0 rfl) ?_
    refine va_get (D := D) (ci := 5) (v := .long lo) (C := "ColumnForms$Row") (T := TRo) (N := 9) hx hb hts inRo hown hK hP 0 rfl rfl 3 (by decide) (hts _ tw_48) (fun _ h9 => h9) rfl dRo_noteNext_18 ?_
    refine lv_lload_n hx hb dRo_noteNext_21 rfl (lv_at hl 1 rfl) ?_
    refine va_mmin_long hx hb (hml.trans hl.1.symm) hown (hts _ tw_264) (hts _ tw_265) (hts _ tw_15) (hts _ tw_266) (Nat.le_of_ble_eq_true rfl) (Nat.le_of_ble_eq_true rfl) (Nat.le_of_ble_eq_true rfl) (Nat.le_of_ble_eq_true rfl) dRo_noteNext_22 ?_
    refine tp_l (show (if v < lo then v else lo) = (lMin lo v) from rfl) ?_
    refine va_put (D := D) (ci := 5) (v := .long (lMin lo v)) (ty := .long) (C := "ColumnForms$Row") (T := TRo) (N := 9) hx hb hts inRo tyRo tyRo_ok nmRo hown hK hP hD hS 0 rfl rfl 3 (by decide) (hts _ tw_48) (fun _ h9 => h9) rfl (by decide +kernel) rfl rfl (Nat.le_of_ble_eq_true rfl) dRo_noteNext_25 (fun H locs hP hD hS => ?_)
    have hP : va_P D vwCl [(qr, .inr (5, [.int (nI n), .int (nI d), .int (nI rn), .long (lMin lo v), .long hi, .long sl, .long sh, .ref qc, .ref qs]))] H := hP
    have hD : va_D A [(qr, .inr (5, [.int (nI n), .int (nI d), .int (nI rn), .long (lMin lo v), .long hi, .long sl, .long sh, .ref qc, .ref qs]))] := hD
    refine lv_aload_n hx hb dRo_noteNext_28 rfl (lv_at hl 0 rfl) ?_
    refine lv_aload_n hx hb dRo_noteNext_29 rfl (lv_at hl 0 rfl) ?_
    refine va_get (D := D) (ci := 5) (v := .long hi) (C := "ColumnForms$Row") (T := TRo) (N := 9) hx hb hts inRo hown hK hP 0 rfl rfl 4 (by decide) (hts _ tw_50) (fun _ h9 => h9) rfl dRo_noteNext_30 ?_
    refine lv_lload_n hx hb dRo_noteNext_33 rfl (lv_at hl 1 rfl) ?_
    refine va_mmax_long hx hb (hml.trans hl.1.symm) hown (hts _ tw_267) (hts _ tw_268) (hts _ tw_15) (hts _ tw_269) (Nat.le_of_ble_eq_true rfl) (Nat.le_of_ble_eq_true rfl) (Nat.le_of_ble_eq_true rfl) (Nat.le_of_ble_eq_true rfl) dRo_noteNext_34 ?_
    refine tp_l (show (if v < hi then hi else v) = (lMax hi v) from rfl) ?_
    refine va_put (D := D) (ci := 5) (v := .long (lMax hi v)) (ty := .long) (C := "ColumnForms$Row") (T := TRo) (N := 9) hx hb hts inRo tyRo tyRo_ok nmRo hown hK hP hD hS 0 rfl rfl 4 (by decide) (hts _ tw_50) (fun _ h9 => h9) rfl (by decide +kernel) rfl rfl (Nat.le_of_ble_eq_true rfl) dRo_noteNext_37 (fun H locs hP hD hS => ?_)
    have hP : va_P D vwCl [(qr, .inr (5, [.int (nI n), .int (nI d), .int (nI rn), .long (lMin lo v), .long (lMax hi v), .long sl, .long sh, .ref qc, .ref qs]))] H := hP
    have hD : va_D A [(qr, .inr (5, [.int (nI n), .int (nI d), .int (nI rn), .long (lMin lo v), .long (lMax hi v), .long sl, .long sh, .ref qc, .ref qs]))] := hD
    refine lv_aload_n hx hb dRo_noteNext_40 rfl (lv_at hl 0 rfl) ?_
    refine lv_aload_n hx hb dRo_noteNext_41 rfl (lv_at hl 0 rfl) ?_
    refine va_get (D := D) (ci := 5) (v := .int (nI n)) (C := "ColumnForms$Row") (T := TRo) (N := 9) hx hb hts inRo hown hK hP 0 rfl rfl 0 (by decide) (hts _ tw_40) (fun _ h9 => h9) rfl dRo_noteNext_42 ?_
    refine lv_iconst (v := nI 1) hx hb dRo_noteNext_45 (by decide) ?_
    refine lv_icmp_ne (tgt := 53) hx hb dRo_noteNext_46 (by decide) (fun c46 => ?_) (fun c46 => ?_)
    · have c46 : ¬ n = 1 := fun h => c46 ((nI_eq (by omega) (by omega)).mpr h)
      refine lv_aload_n hx hb dRo_noteNext_53 rfl (lv_at hl 0 rfl) ?_
      refine va_get (D := D) (ci := 5) (v := .long sl) (C := "ColumnForms$Row") (T := TRo) (N := 9) hx hb hts inRo hown hK hP 0 rfl rfl 5 (by decide) (hts _ tw_52) (fun _ h9 => h9) rfl dRo_noteNext_54 ?_
      refine lv_lload_n hx hb dRo_noteNext_57 rfl (lv_at hl 2 rfl) ?_
      refine va_mmin_long hx hb (hml.trans hl.1.symm) hown (hts _ tw_264) (hts _ tw_265) (hts _ tw_15) (hts _ tw_266) (Nat.le_of_ble_eq_true rfl) (Nat.le_of_ble_eq_true rfl) (Nat.le_of_ble_eq_true rfl) (Nat.le_of_ble_eq_true rfl) dRo_noteNext_58 ?_
      refine tp_l (show (if st < sl then st else sl) = (lMin sl st) from rfl) ?_
      refine va_put (D := D) (ci := 5) (v := .long (lMin sl st)) (ty := .long) (C := "ColumnForms$Row") (T := TRo) (N := 9) hx hb hts inRo tyRo tyRo_ok nmRo hown hK hP hD hS 0 rfl rfl 5 (by decide) (hts _ tw_52) (fun _ h9 => h9) rfl (by decide +kernel) rfl rfl (Nat.le_of_ble_eq_true rfl) dRo_noteNext_61 (fun H locs hP hD hS => ?_)
      have hP : va_P D vwCl [(qr, .inr (5, [.int (nI n), .int (nI d), .int (nI rn), .long (lMin lo v), .long (lMax hi v), .long (lMin sl st), .long sh, .ref qc, .ref qs]))] H := hP
      have hD : va_D A [(qr, .inr (5, [.int (nI n), .int (nI d), .int (nI rn), .long (lMin lo v), .long (lMax hi v), .long (lMin sl st), .long sh, .ref qc, .ref qs]))] := hD
      refine lv_aload_n hx hb dRo_noteNext_64 rfl (lv_at hl 0 rfl) ?_
      refine lv_aload_n hx hb dRo_noteNext_65 rfl (lv_at hl 0 rfl) ?_
      refine va_get (D := D) (ci := 5) (v := .int (nI n)) (C := "ColumnForms$Row") (T := TRo) (N := 9) hx hb hts inRo hown hK hP 0 rfl rfl 0 (by decide) (hts _ tw_40) (fun _ h9 => h9) rfl dRo_noteNext_66 ?_
      refine lv_iconst (v := nI 1) hx hb dRo_noteNext_69 (by decide) ?_
      refine lv_icmp_ne (tgt := 77) hx hb dRo_noteNext_70 (by decide) (fun c70 => ?_) (fun c70 => ?_)
      · have c70 : ¬ n = 1 := fun h => c70 ((nI_eq (by omega) (by omega)).mpr h)
        refine lv_aload_n hx hb dRo_noteNext_77 rfl (lv_at hl 0 rfl) ?_
        refine va_get (D := D) (ci := 5) (v := .long sh) (C := "ColumnForms$Row") (T := TRo) (N := 9) hx hb hts inRo hown hK hP 0 rfl rfl 6 (by decide) (hts _ tw_54) (fun _ h9 => h9) rfl dRo_noteNext_78 ?_
        refine lv_lload_n hx hb dRo_noteNext_81 rfl (lv_at hl 2 rfl) ?_
        refine va_mmax_long hx hb (hml.trans hl.1.symm) hown (hts _ tw_267) (hts _ tw_268) (hts _ tw_15) (hts _ tw_269) (Nat.le_of_ble_eq_true rfl) (Nat.le_of_ble_eq_true rfl) (Nat.le_of_ble_eq_true rfl) (Nat.le_of_ble_eq_true rfl) dRo_noteNext_82 ?_
        refine tp_l (show (if st < sh then sh else st) = (lMax sh st) from rfl) ?_
        refine va_put (D := D) (ci := 5) (v := .long (lMax sh st)) (ty := .long) (C := "ColumnForms$Row") (T := TRo) (N := 9) hx hb hts inRo tyRo tyRo_ok nmRo hown hK hP hD hS 0 rfl rfl 6 (by decide) (hts _ tw_54) (fun _ h9 => h9) rfl (by decide +kernel) rfl rfl (Nat.le_of_ble_eq_true rfl) dRo_noteNext_85 (fun H locs hP hD hS => ?_)
        have hP : va_P D vwCl [(qr, .inr (5, [.int (nI n), .int (nI d), .int (nI rn), .long (lMin lo v), .long (lMax hi v), .long (lMin sl st), .long (lMax sh st), .ref qc, .ref qs]))] H := hP
        have hD : va_D A [(qr, .inr (5, [.int (nI n), .int (nI d), .int (nI rn), .long (lMin lo v), .long (lMax hi v), .long (lMin sl st), .long (lMax sh st), .ref qc, .ref qs]))] := hD
        exact hret (rn, lMin sl st, lMax sh st) _ _ _ _ _ _ ⟨by rw [if_pos c3, Nat.add_zero], by rw [if_neg c46], by rw [if_neg c46], trivial⟩ (hP.sub [0] rfl) (hD.sub [0] (by decide) rfl) hS (Nat.le_of_ble_eq_true rfl) (Nat.le_of_ble_eq_true rfl) dRo_noteNext_88
      · have c70 : n = 1 := (nI_eq (by omega) (by omega)).mp c70
        exact absurd c70 c46
    · have c46 : n = 1 := (nI_eq (by omega) (by omega)).mp c46
      refine lv_lload_n hx hb dRo_noteNext_49 rfl (lv_at hl 2 rfl) ?_
      refine lv_goto (tgt := 61) hx hb dRo_noteNext_50 (by decide) ?_
      refine va_put (D := D) (ci := 5) (v := .long st) (ty := .long) (C := "ColumnForms$Row") (T := TRo) (N := 9) hx hb hts inRo tyRo tyRo_ok nmRo hown hK hP hD hS 0 rfl rfl 5 (by decide) (hts _ tw_52) (fun _ h9 => h9) rfl (by decide +kernel) rfl rfl (Nat.le_of_ble_eq_true rfl) dRo_noteNext_61 (fun H locs hP hD hS => ?_)
      have hP : va_P D vwCl [(qr, .inr (5, [.int (nI n), .int (nI d), .int (nI rn), .long (lMin lo v), .long (lMax hi v), .long st, .long sh, .ref qc, .ref qs]))] H := hP
      have hD : va_D A [(qr, .inr (5, [.int (nI n), .int (nI d), .int (nI rn), .long (lMin lo v), .long (lMax hi v), .long st, .long sh, .ref qc, .ref qs]))] := hD
      refine lv_aload_n hx hb dRo_noteNext_64 rfl (lv_at hl 0 rfl) ?_
      refine lv_aload_n hx hb dRo_noteNext_65 rfl (lv_at hl 0 rfl) ?_
      refine va_get (D := D) (ci := 5) (v := .int (nI n)) (C := "ColumnForms$Row") (T := TRo) (N := 9) hx hb hts inRo hown hK hP 0 rfl rfl 0 (by decide) (hts _ tw_40) (fun _ h9 => h9) rfl dRo_noteNext_66 ?_
      refine lv_iconst (v := nI 1) hx hb dRo_noteNext_69 (by decide) ?_
      refine lv_icmp_ne (tgt := 77) hx hb dRo_noteNext_70 (by decide) (fun c70 => ?_) (fun c70 => ?_)
      · have c70 : ¬ n = 1 := fun h => c70 ((nI_eq (by omega) (by omega)).mpr h)
        exact absurd c46 c70
      · have c70 : n = 1 := (nI_eq (by omega) (by omega)).mp c70
        refine lv_lload_n hx hb dRo_noteNext_73 rfl (lv_at hl 2 rfl) ?_
        refine lv_goto (tgt := 85) hx hb dRo_noteNext_74 (by decide) ?_
        refine va_put (D := D) (ci := 5) (v := .long st) (ty := .long) (C := "ColumnForms$Row") (T := TRo) (N := 9) hx hb hts inRo tyRo tyRo_ok nmRo hown hK hP hD hS 0 rfl rfl 6 (by decide) (hts _ tw_54) (fun _ h9 => h9) rfl (by decide +kernel) rfl rfl (Nat.le_of_ble_eq_true rfl) dRo_noteNext_85 (fun H locs hP hD hS => ?_)
        have hP : va_P D vwCl [(qr, .inr (5, [.int (nI n), .int (nI d), .int (nI rn), .long (lMin lo v), .long (lMax hi v), .long st, .long st, .ref qc, .ref qs]))] H := hP
        have hD : va_D A [(qr, .inr (5, [.int (nI n), .int (nI d), .int (nI rn), .long (lMin lo v), .long (lMax hi v), .long st, .long st, .ref qc, .ref qs]))] := hD
        exact hret (rn, st, st) _ _ _ _ _ _ ⟨by rw [if_pos c3, Nat.add_zero], by rw [if_pos c46], by rw [if_pos c46], trivial⟩ (hP.sub [0] rfl) (hD.sub [0] (by decide) rfl) hS (Nat.le_of_ble_eq_true rfl) (Nat.le_of_ble_eq_true rfl) dRo_noteNext_88
  · have c3 : ¬ st = 0 := fun h => c3 ((lg_cmp_eq _ _).mpr h)
    refine lv_aload_n hx hb dRo_noteNext_6 rfl (lv_at hl 0 rfl) ?_
    refine lv_dup hx hb dRo_noteNext_7 rfl ?_
    refine va_get (D := D) (ci := 5) (v := .int (nI rn)) (C := "ColumnForms$Row") (T := TRo) (N := 9) hx hb hts inRo hown hK hP 0 rfl rfl 2 (by decide) (hts _ tw_46) (fun _ h9 => h9) rfl dRo_noteNext_8 ?_
    refine lv_iconst (v := nI 1) hx hb dRo_noteNext_11 (by decide) ?_
    refine lv_iadd hx hb dRo_noteNext_12 ?_
    refine tp_i (show ((nI rn) + (nI 1)) = (nI (rn + 1)) from nI_add _ _) ?_
    refine va_put (D := D) (ci := 5) (v := .int (nI (rn + 1))) (ty := .int) (C := "ColumnForms$Row") (T := TRo) (N := 9) hx hb hts inRo tyRo tyRo_ok nmRo hown hK hP hD hS 0 rfl rfl 2 (by decide) (hts _ tw_46) (fun _ h9 => h9) rfl (by decide +kernel) rfl rfl (Nat.le_of_ble_eq_true rfl) dRo_noteNext_13 (fun H locs hP hD hS => ?_)
    have hP : va_P D vwCl [(qr, .inr (5, [.int (nI n), .int (nI d), .int (nI (rn + 1)), .long lo, .long hi, .long sl, .long sh, .ref qc, .ref qs]))] H := hP
    have hD : va_D A [(qr, .inr (5, [.int (nI n), .int (nI d), .int (nI (rn + 1)), .long lo, .long hi, .long sl, .long sh, .ref qc, .ref qs]))] := hD
    refine lv_aload_n hx hb dRo_noteNext_16 rfl (lv_at hl 0 rfl) ?_
    refine lv_aload_n hx hb dRo_noteNext_17 rfl (lv_at hl 0 rfl) ?_
    refine va_get (D := D) (ci := 5) (v := .long lo) (C := "ColumnForms$Row") (T := TRo) (N := 9) hx hb hts inRo hown hK hP 0 rfl rfl 3 (by decide) (hts _ tw_48) (fun _ h9 => h9) rfl dRo_noteNext_18 ?_
    refine lv_lload_n hx hb dRo_noteNext_21 rfl (lv_at hl 1 rfl) ?_
    refine va_mmin_long hx hb (hml.trans hl.1.symm) hown (hts _ tw_264) (hts _ tw_265) (hts _ tw_15) (hts _ tw_266) (Nat.le_of_ble_eq_true rfl) (Nat.le_of_ble_eq_true rfl) (Nat.le_of_ble_eq_true rfl) (Nat.le_of_ble_eq_true rfl) dRo_noteNext_22 ?_
    refine tp_l (show (if v < lo then v else lo) = (lMin lo v) from rfl) ?_
    refine va_put (D := D) (ci := 5) (v := .long (lMin lo v)) (ty := .long) (C := "ColumnForms$Row") (T := TRo) (N := 9) hx hb hts inRo tyRo tyRo_ok nmRo hown hK hP hD hS 0 rfl rfl 3 (by decide) (hts _ tw_48) (fun _ h9 => h9) rfl (by decide +kernel) rfl rfl (Nat.le_of_ble_eq_true rfl) dRo_noteNext_25 (fun H locs hP hD hS => ?_)
    have hP : va_P D vwCl [(qr, .inr (5, [.int (nI n), .int (nI d), .int (nI (rn + 1)), .long (lMin lo v), .long hi, .long sl, .long sh, .ref qc, .ref qs]))] H := hP
    have hD : va_D A [(qr, .inr (5, [.int (nI n), .int (nI d), .int (nI (rn + 1)), .long (lMin lo v), .long hi, .long sl, .long sh, .ref qc, .ref qs]))] := hD
    refine lv_aload_n hx hb dRo_noteNext_28 rfl (lv_at hl 0 rfl) ?_
    refine lv_aload_n hx hb dRo_noteNext_29 rfl (lv_at hl 0 rfl) ?_
    refine va_get (D := D) (ci := 5) (v := .long hi) (C := "ColumnForms$Row") (T := TRo) (N := 9) hx hb hts inRo hown hK hP 0 rfl rfl 4 (by decide) (hts _ tw_50) (fun _ h9 => h9) rfl dRo_noteNext_30 ?_
    refine lv_lload_n hx hb dRo_noteNext_33 rfl (lv_at hl 1 rfl) ?_
    refine va_mmax_long hx hb (hml.trans hl.1.symm) hown (hts _ tw_267) (hts _ tw_268) (hts _ tw_15) (hts _ tw_269) (Nat.le_of_ble_eq_true rfl) (Nat.le_of_ble_eq_true rfl) (Nat.le_of_ble_eq_true rfl) (Nat.le_of_ble_eq_true rfl) dRo_noteNext_34 ?_
    refine tp_l (show (if v < hi then hi else v) = (lMax hi v) from rfl) ?_
    refine va_put (D := D) (ci := 5) (v := .long (lMax hi v)) (ty := .long) (C := "ColumnForms$Row") (T := TRo) (N := 9) hx hb hts inRo tyRo tyRo_ok nmRo hown hK hP hD hS 0 rfl rfl 4 (by decide) (hts _ tw_50) (fun _ h9 => h9) rfl (by decide +kernel) rfl rfl (Nat.le_of_ble_eq_true rfl) dRo_noteNext_37 (fun H locs hP hD hS => ?_)
    have hP : va_P D vwCl [(qr, .inr (5, [.int (nI n), .int (nI d), .int (nI (rn + 1)), .long (lMin lo v), .long (lMax hi v), .long sl, .long sh, .ref qc, .ref qs]))] H := hP
    have hD : va_D A [(qr, .inr (5, [.int (nI n), .int (nI d), .int (nI (rn + 1)), .long (lMin lo v), .long (lMax hi v), .long sl, .long sh, .ref qc, .ref qs]))] := hD
    refine lv_aload_n hx hb dRo_noteNext_40 rfl (lv_at hl 0 rfl) ?_
    refine lv_aload_n hx hb dRo_noteNext_41 rfl (lv_at hl 0 rfl) ?_
    refine va_get (D := D) (ci := 5) (v := .int (nI n)) (C := "ColumnForms$Row") (T := TRo) (N := 9) hx hb hts inRo hown hK hP 0 rfl rfl 0 (by decide) (hts _ tw_40) (fun _ h9 => h9) rfl dRo_noteNext_42 ?_
    refine lv_iconst (v := nI 1) hx hb dRo_noteNext_45 (by decide) ?_
    refine lv_icmp_ne (tgt := 53) hx hb dRo_noteNext_46 (by decide) (fun c46 => ?_) (fun c46 => ?_)
    · have c46 : ¬ n = 1 := fun h => c46 ((nI_eq (by omega) (by omega)).mpr h)
      refine lv_aload_n hx hb dRo_noteNext_53 rfl (lv_at hl 0 rfl) ?_
      refine va_get (D := D) (ci := 5) (v := .long sl) (C := "ColumnForms$Row") (T := TRo) (N := 9) hx hb hts inRo hown hK hP 0 rfl rfl 5 (by decide) (hts _ tw_52) (fun _ h9 => h9) rfl dRo_noteNext_54 ?_
      refine lv_lload_n hx hb dRo_noteNext_57 rfl (lv_at hl 2 rfl) ?_
      refine va_mmin_long hx hb (hml.trans hl.1.symm) hown (hts _ tw_264) (hts _ tw_265) (hts _ tw_15) (hts _ tw_266) (Nat.le_of_ble_eq_true rfl) (Nat.le_of_ble_eq_true rfl) (Nat.le_of_ble_eq_true rfl) (Nat.le_of_ble_eq_true rfl) dRo_noteNext_58 ?_
      refine tp_l (show (if st < sl then st else sl) = (lMin sl st) from rfl) ?_
      refine va_put (D := D) (ci := 5) (v := .long (lMin sl st)) (ty := .long) (C := "ColumnForms$Row") (T := TRo) (N := 9) hx hb hts inRo tyRo tyRo_ok nmRo hown hK hP hD hS 0 rfl rfl 5 (by decide) (hts _ tw_52) (fun _ h9 => h9) rfl (by decide +kernel) rfl rfl (Nat.le_of_ble_eq_true rfl) dRo_noteNext_61 (fun H locs hP hD hS => ?_)
      have hP : va_P D vwCl [(qr, .inr (5, [.int (nI n), .int (nI d), .int (nI (rn + 1)), .long (lMin lo v), .long (lMax hi v), .long (lMin sl st), .long sh, .ref qc, .ref qs]))] H := hP
      have hD : va_D A [(qr, .inr (5, [.int (nI n), .int (nI d), .int (nI (rn + 1)), .long (lMin lo v), .long (lMax hi v), .long (lMin sl st), .long sh, .ref qc, .ref qs]))] := hD
      refine lv_aload_n hx hb dRo_noteNext_64 rfl (lv_at hl 0 rfl) ?_
      refine lv_aload_n hx hb dRo_noteNext_65 rfl (lv_at hl 0 rfl) ?_
      refine va_get (D := D) (ci := 5) (v := .int (nI n)) (C := "ColumnForms$Row") (T := TRo) (N := 9) hx hb hts inRo hown hK hP 0 rfl rfl 0 (by decide) (hts _ tw_40) (fun _ h9 => h9) rfl dRo_noteNext_66 ?_
      refine lv_iconst (v := nI 1) hx hb dRo_noteNext_69 (by decide) ?_
      refine lv_icmp_ne (tgt := 77) hx hb dRo_noteNext_70 (by decide) (fun c70 => ?_) (fun c70 => ?_)
      · have c70 : ¬ n = 1 := fun h => c70 ((nI_eq (by omega) (by omega)).mpr h)
        refine lv_aload_n hx hb dRo_noteNext_77 rfl (lv_at hl 0 rfl) ?_
        refine va_get (D := D) (ci := 5) (v := .long sh) (C := "ColumnForms$Row") (T := TRo) (N := 9) hx hb hts inRo hown hK hP 0 rfl rfl 6 (by decide) (hts _ tw_54) (fun _ h9 => h9) rfl dRo_noteNext_78 ?_
        refine lv_lload_n hx hb dRo_noteNext_81 rfl (lv_at hl 2 rfl) ?_
        refine va_mmax_long hx hb (hml.trans hl.1.symm) hown (hts _ tw_267) (hts _ tw_268) (hts _ tw_15) (hts _ tw_269) (Nat.le_of_ble_eq_true rfl) (Nat.le_of_ble_eq_true rfl) (Nat.le_of_ble_eq_true rfl) (Nat.le_of_ble_eq_true rfl) dRo_noteNext_82 ?_
        refine tp_l (show (if st < sh then sh else st) = (lMax sh st) from rfl) ?_
        refine va_put (D := D) (ci := 5) (v := .long (lMax sh st)) (ty := .long) (C := "ColumnForms$Row") (T := TRo) (N := 9) hx hb hts inRo tyRo tyRo_ok nmRo hown hK hP hD hS 0 rfl rfl 6 (by decide) (hts _ tw_54) (fun _ h9 => h9) rfl (by decide +kernel) rfl rfl (Nat.le_of_ble_eq_true rfl) dRo_noteNext_85 (fun H locs hP hD hS => ?_)
        have hP : va_P D vwCl [(qr, .inr (5, [.int (nI n), .int (nI d), .int (nI (rn + 1)), .long (lMin lo v), .long (lMax hi v), .long (lMin sl st), .long (lMax sh st), .ref qc, .ref qs]))] H := hP
        have hD : va_D A [(qr, .inr (5, [.int (nI n), .int (nI d), .int (nI (rn + 1)), .long (lMin lo v), .long (lMax hi v), .long (lMin sl st), .long (lMax sh st), .ref qc, .ref qs]))] := hD
        exact hret (rn + 1, lMin sl st, lMax sh st) _ _ _ _ _ _ ⟨by rw [if_neg c3], by rw [if_neg c46], by rw [if_neg c46], trivial⟩ (hP.sub [0] rfl) (hD.sub [0] (by decide) rfl) hS (Nat.le_of_ble_eq_true rfl) (Nat.le_of_ble_eq_true rfl) dRo_noteNext_88
      · have c70 : n = 1 := (nI_eq (by omega) (by omega)).mp c70
        exact absurd c70 c46
    · have c46 : n = 1 := (nI_eq (by omega) (by omega)).mp c46
      refine lv_lload_n hx hb dRo_noteNext_49 rfl (lv_at hl 2 rfl) ?_
      refine lv_goto (tgt := 61) hx hb dRo_noteNext_50 (by decide) ?_
      refine va_put (D := D) (ci := 5) (v := .long st) (ty := .long) (C := "ColumnForms$Row") (T := TRo) (N := 9) hx hb hts inRo tyRo tyRo_ok nmRo hown hK hP hD hS 0 rfl rfl 5 (by decide) (hts _ tw_52) (fun _ h9 => h9) rfl (by decide +kernel) rfl rfl (Nat.le_of_ble_eq_true rfl) dRo_noteNext_61 (fun H locs hP hD hS => ?_)
      have hP : va_P D vwCl [(qr, .inr (5, [.int (nI n), .int (nI d), .int (nI (rn + 1)), .long (lMin lo v), .long (lMax hi v), .long st, .long sh, .ref qc, .ref qs]))] H := hP
      have hD : va_D A [(qr, .inr (5, [.int (nI n), .int (nI d), .int (nI (rn + 1)), .long (lMin lo v), .long (lMax hi v), .long st, .long sh, .ref qc, .ref qs]))] := hD
      refine lv_aload_n hx hb dRo_noteNext_64 rfl (lv_at hl 0 rfl) ?_
      refine lv_aload_n hx hb dRo_noteNext_65 rfl (lv_at hl 0 rfl) ?_
      refine va_get (D := D) (ci := 5) (v := .int (nI n)) (C := "ColumnForms$Row") (T := TRo) (N := 9) hx hb hts inRo hown hK hP 0 rfl rfl 0 (by decide) (hts _ tw_40) (fun _ h9 => h9) rfl dRo_noteNext_66 ?_
      refine lv_iconst (v := nI 1) hx hb dRo_noteNext_69 (by decide) ?_
      refine lv_icmp_ne (tgt := 77) hx hb dRo_noteNext_70 (by decide) (fun c70 => ?_) (fun c70 => ?_)
      · have c70 : ¬ n = 1 := fun h => c70 ((nI_eq (by omega) (by omega)).mpr h)
        exact absurd c46 c70
      · have c70 : n = 1 := (nI_eq (by omega) (by omega)).mp c70
        refine lv_lload_n hx hb dRo_noteNext_73 rfl (lv_at hl 2 rfl) ?_
        refine lv_goto (tgt := 85) hx hb dRo_noteNext_74 (by decide) ?_
        refine va_put (D := D) (ci := 5) (v := .long st) (ty := .long) (C := "ColumnForms$Row") (T := TRo) (N := 9) hx hb hts inRo tyRo tyRo_ok nmRo hown hK hP hD hS 0 rfl rfl 6 (by decide) (hts _ tw_54) (fun _ h9 => h9) rfl (by decide +kernel) rfl rfl (Nat.le_of_ble_eq_true rfl) dRo_noteNext_85 (fun H locs hP hD hS => ?_)
        have hP : va_P D vwCl [(qr, .inr (5, [.int (nI n), .int (nI d), .int (nI (rn + 1)), .long (lMin lo v), .long (lMax hi v), .long st, .long st, .ref qc, .ref qs]))] H := hP
        have hD : va_D A [(qr, .inr (5, [.int (nI n), .int (nI d), .int (nI (rn + 1)), .long (lMin lo v), .long (lMax hi v), .long st, .long st, .ref qc, .ref qs]))] := hD
        exact hret (rn + 1, st, st) _ _ _ _ _ _ ⟨by rw [if_neg c3], by rw [if_pos c46], by rw [if_pos c46], trivial⟩ (hP.sub [0] rfl) (hD.sub [0] (by decide) rfl) hS (Nat.le_of_ble_eq_true rfl) (Nat.le_of_ble_eq_true rfl) dRo_noteNext_88

set_option maxHeartbeats 4000000 in
set_option maxRecDepth 100000 in
theorem c_noteDif (l : Launch) (D : va_G) (cJ cB cI cF : ClassId) (qr : Nat) (n : Nat) (d : Nat) (rn : Nat) (lo : Int64) (hi : Int64) (sl : Int64) (sh : Int64) (qc : Nat) (qs : Nat) (xs : Nat → Int64) (rs : Nat → Int64) (v : Int64) (t : Nat) (sz : Nat) (hI : rInv xs n rs d) (hn : n < 1024) (ht : rPl rs d v t) : Met l yRo_noteDifferent (Cond.code yRo_noteDifferent cRo_noteDifferent 5 none :: wsG) ({ frames := 1, cells := 0, slots := 0, locals := 21 }) (va_Pc [.ref qr, .long v, .int (nI t)] (cfPre D (cfT cJ cB cI cF) [(qr, .inr (5, [.int (nI n), .int (nI d), .int (nI rn), .long lo, .long hi, .long sl, .long sh, .ref qc, .ref qs])), (qs, .inl (cJ, 1024, .inr (.inl rs)))] sz)) (va_Qv (fun (u : Nat × (Nat → Int64)) => (rInv (vp_updL xs n v) (n + 1) u.2 u.1) ∧ True) (fun u t => cfPost D ((fun (u : Nat × (Nat → Int64)) => [(qr, .inr (5, [.int (nI n), .int (nI u.1), .int (nI rn), .long lo, .long hi, .long sl, .long sh, .ref qc, .ref qs])), (qs, .inl (cJ, 1024, .inr (.inl u.2)))]) u) (va_A [(qr, .inr (5, [.int (nI n), .int (nI d), .int (nI rn), .long lo, .long hi, .long sl, .long sh, .ref qc, .ref qs])), (qs, .inl (cJ, 1024, .inr (.inl rs)))] sz) t) (va_A [(qr, .inr (5, [.int (nI n), .int (nI d), .int (nI rn), .long lo, .long hi, .long sl, .long sh, .ref qc, .ref qs])), (qs, .inl (cJ, 1024, .inr (.inl rs)))] sz)) 0 0 (va_A [(qr, .inr (5, [.int (nI n), .int (nI d), .int (nI rn), .long lo, .long hi, .long sl, .long sh, .ref qc, .ref qs])), (qs, .inl (cJ, 1024, .inr (.inl rs)))] sz) := by
  refine met_v (cc := cRo_noteDifferent) (maxL := 5) (S := Nat × (Nat → Int64)) (D := D) (wO := fun (u : Nat × (Nat → Int64)) => [(qr, .inr (5, [.int (nI n), .int (nI u.1), .int (nI rn), .long lo, .long hi, .long sl, .long sh, .ref qc, .ref qs])), (qs, .inl (cJ, 1024, .inr (.inl u.2)))]) (by decide) (Nat.le_of_ble_eq_true rfl) ?_
  intro p e s m below meth c hx hb hml hown hts hlocks hin hWd A hA hsz hP hK hD hS Q hret ls hl
  have hown : s.vm.findClass "ColumnForms$Row" = some m.cls := hown
  have hl : lv_has ls 5 [(0, .ref qr), (1, .long v), (3, .int (nI t))] := hl
  have hP : va_P D vwCl [(qr, .inr (5, [.int (nI n), .int (nI d), .int (nI rn), .long lo, .long hi, .long sl, .long sh, .ref qc, .ref qs])), (qs, .inl (cJ, 1024, .inr (.inl rs)))] s.heap := hP
  have ht1 := ht.1
  have hdn := hI.2.1
  refine lv_iload_n hx hb dRo_noteDifferent_0 rfl (lv_at hl 2 rfl) ?_
  refine lv_aload_n hx hb dRo_noteDifferent_1 rfl (lv_at hl 0 rfl) ?_
  refine va_get (D := D) (ci := 5) (v := .int (nI d)) (C := "ColumnForms$Row") (T := TRo) (N := 9) hx hb hts inRo hown hK hP 0 rfl rfl 1 (by decide) (hts _ tw_44) (fun _ h9 => h9) rfl dRo_noteDifferent_2 ?_
  refine lv_icmp_ge (tgt := 22) hx hb dRo_noteDifferent_5 (by decide) (fun c5 => ?_) (fun c5 => ?_)
  · have c5 : d ≤ t := (nI_leI (by omega) (by omega)).mp c5
    refine lv_iconst (v := nI 0) hx hb dRo_noteDifferent_22 (by decide) ?_
    refine lv_istore (lv' := [(4, .int (nI 0)), (0, .ref qr), (1, .long v), (3, .int (nI t))]) hx hb dRo_noteDifferent_23 hl (by decide) rfl (fun ls hl => ?_)
    refine lv_iload hx hb dRo_noteDifferent_25 (lv_at hl 0 rfl) ?_
    refine lv_if_ne (tgt := 52) hx hb dRo_noteDifferent_27 (by decide) (fun c27 => ?_) (fun c27 => ?_)
    · have c27 : ¬ 0 = 0 := fun h => c27 ((nI_eq (b := 0) (by omega) (by omega)).mpr h)
      exact absurd c27 (by decide)
    · have c27 : 0 = 0 := (nI_eq (b := 0) (by omega) (by omega)).mp c27
      refine lv_iload_n hx hb dRo_noteDifferent_30 rfl (lv_at hl 3 rfl) ?_
      refine lv_if_lt (tgt := 52) hx hb dRo_noteDifferent_31 (by decide) (fun c31 => ?_) (fun c31 => ?_)
      · have c31 : t < 0 := (nI_ltI (b := 0) (by omega) (by omega)).mp c31
        exact absurd c31 (by omega)
      · have c31 : ¬ t < 0 := fun h => c31 ((nI_ltI (b := 0) (by omega) (by omega)).mpr h)
        refine lv_iload_n hx hb dRo_noteDifferent_34 rfl (lv_at hl 3 rfl) ?_
        refine lv_aload_n hx hb dRo_noteDifferent_35 rfl (lv_at hl 1 rfl) ?_
        refine va_get (D := D) (ci := 5) (v := .int (nI d)) (C := "ColumnForms$Row") (T := TRo) (N := 9) hx hb hts inRo hown hK hP 0 rfl rfl 1 (by decide) (hts _ tw_44) (fun _ h9 => h9) rfl dRo_noteDifferent_36 ?_
        refine lv_icmp_gt (tgt := 52) hx hb dRo_noteDifferent_39 (by decide) (fun c39 => ?_) (fun c39 => ?_)
        · have c39 : d < t := (nI_ltI (by omega) (by omega)).mp c39
          exact absurd c39 (by omega)
        · have c39 : ¬ d < t := fun h => c39 ((nI_ltI (by omega) (by omega)).mpr h)
          refine lv_aload_n hx hb dRo_noteDifferent_42 rfl (lv_at hl 1 rfl) ?_
          refine va_get (D := D) (ci := 5) (v := .int (nI d)) (C := "ColumnForms$Row") (T := TRo) (N := 9) hx hb hts inRo hown hK hP 0 rfl rfl 1 (by decide) (hts _ tw_44) (fun _ h9 => h9) rfl dRo_noteDifferent_43 ?_
          refine lv_sipush (v := nI 1024) hx hb dRo_noteDifferent_46 (by decide) ?_
          refine lv_icmp_lt (tgt := 53) hx hb dRo_noteDifferent_49 (by decide) (fun c49 => ?_) (fun c49 => ?_)
          · have c49 : d < 1024 := (nI_ltI (by omega) (by omega)).mp c49
            refine lv_aload_n hx hb dRo_noteDifferent_53 rfl (lv_at hl 1 rfl) ?_
            refine va_get (D := D) (ci := 5) (v := .ref qs) (C := "ColumnForms$Row") (T := TRo) (N := 9) hx hb hts inRo hown hK hP 0 rfl rfl 8 (by decide) (hts _ tw_56) (fun _ h9 => h9) rfl dRo_noteDifferent_54 ?_
            refine lv_iload_n hx hb dRo_noteDifferent_57 rfl (lv_at hl 3 rfl) ?_
            refine lv_aload_n hx hb dRo_noteDifferent_58 rfl (lv_at hl 1 rfl) ?_
            refine va_get (D := D) (ci := 5) (v := .ref qs) (C := "ColumnForms$Row") (T := TRo) (N := 9) hx hb hts inRo hown hK hP 0 rfl rfl 8 (by decide) (hts _ tw_56) (fun _ h9 => h9) rfl dRo_noteDifferent_59 ?_
            refine lv_iload_n hx hb dRo_noteDifferent_62 rfl (lv_at hl 3 rfl) ?_
            refine lv_iconst (v := nI 1) hx hb dRo_noteDifferent_63 (by decide) ?_
            refine lv_iadd hx hb dRo_noteDifferent_64 ?_
            refine tp_i (show ((nI t) + (nI 1)) = (nI (t + 1)) from nI_add _ _) ?_
            refine lv_aload_n hx hb dRo_noteDifferent_65 rfl (lv_at hl 1 rfl) ?_
            refine va_get (D := D) (ci := 5) (v := .int (nI d)) (C := "ColumnForms$Row") (T := TRo) (N := 9) hx hb hts inRo hown hK hP 0 rfl rfl 1 (by decide) (hts _ tw_44) (fun _ h9 => h9) rfl dRo_noteDifferent_66 ?_
            refine lv_iload_n hx hb dRo_noteDifferent_69 rfl (lv_at hl 3 rfl) ?_
            refine lv_isub hx hb dRo_noteDifferent_70 ?_
            refine tp_i (show ((nI d) - (nI t)) = (nI (d - t)) from pk_sub (by omega)) ?_
            refine va_copyl hx hb (hml.trans hl.1.symm) hown (hts _ tw_282) (hts _ tw_284) (hts _ tw_283) (hts _ tw_16) hK hP hD hS 1 1 0 0 rfl rfl rfl rfl rfl (nI_pos (by omega)) (nI_pos (by omega)) (nI_pos (by omega)) (by rw [nI_clamp (by omega), nI_clamp (by omega)]; omega) (by rw [nI_clamp (by omega), nI_clamp (by omega)]; omega) (fun i hi => rfl) (Nat.le_of_ble_eq_true rfl) (Nat.le_of_ble_eq_true rfl) dRo_noteDifferent_71 (fun H locs hP hD hS => ?_)
            rw [nI_clamp (by omega), nI_clamp (by omega), nI_clamp (by omega)] at hP hD
            have hP : va_P D vwCl [(qr, .inr (5, [.int (nI n), .int (nI d), .int (nI rn), .long lo, .long hi, .long sl, .long sh, .ref qc, .ref qs])), (qs, .inl (cJ, 1024, .inr (.inl (va_cpy rs rs t (t + 1) (d - t)))))] H := hP
            have hD : va_D A [(qr, .inr (5, [.int (nI n), .int (nI d), .int (nI rn), .long lo, .long hi, .long sl, .long sh, .ref qc, .ref qs])), (qs, .inl (cJ, 1024, .inr (.inl (va_cpy rs rs t (t + 1) (d - t)))))] := hD
            refine lv_aload_n hx hb dRo_noteDifferent_74 rfl (lv_at hl 1 rfl) ?_
            refine va_get (D := D) (ci := 5) (v := .ref qs) (C := "ColumnForms$Row") (T := TRo) (N := 9) hx hb hts inRo hown hK hP 0 rfl rfl 8 (by decide) (hts _ tw_56) (fun _ h9 => h9) rfl dRo_noteDifferent_75 ?_
            refine lv_iload_n hx hb dRo_noteDifferent_78 rfl (lv_at hl 3 rfl) ?_
            refine lv_lload_n hx hb dRo_noteDifferent_79 rfl (lv_at hl 2 rfl) ?_
            refine va_last hx hb hK hP hD hS 1 0 rfl rfl (vp_in_nI (by omega) (by omega)) dRo_noteDifferent_80 (fun H locs hP hD hS => ?_)
            rw [nI_clamp (by omega)] at hP hD
            have hP : va_P D vwCl [(qr, .inr (5, [.int (nI n), .int (nI d), .int (nI rn), .long lo, .long hi, .long sl, .long sh, .ref qc, .ref qs])), (qs, .inl (cJ, 1024, .inr (.inl (vp_updL (va_cpy rs rs t (t + 1) (d - t)) t v))))] H := hP
            have hD : va_D A [(qr, .inr (5, [.int (nI n), .int (nI d), .int (nI rn), .long lo, .long hi, .long sl, .long sh, .ref qc, .ref qs])), (qs, .inl (cJ, 1024, .inr (.inl (vp_updL (va_cpy rs rs t (t + 1) (d - t)) t v))))] := hD
            have hP : va_P D vwCl [(qr, .inr (5, [.int (nI n), .int (nI d), .int (nI rn), .long lo, .long hi, .long sl, .long sh, .ref qc, .ref qs])), (qs, .inl (cJ, 1024, .inr (.inl (rIns rs d t v))))] H := hP
            have hD : va_D A [(qr, .inr (5, [.int (nI n), .int (nI d), .int (nI rn), .long lo, .long hi, .long sl, .long sh, .ref qc, .ref qs])), (qs, .inl (cJ, 1024, .inr (.inl (rIns rs d t v))))] := hD
            refine lv_aload_n hx hb dRo_noteDifferent_81 rfl (lv_at hl 1 rfl) ?_
            refine lv_dup hx hb dRo_noteDifferent_82 rfl ?_
            refine va_get (D := D) (ci := 5) (v := .int (nI d)) (C := "ColumnForms$Row") (T := TRo) (N := 9) hx hb hts inRo hown hK hP 0 rfl rfl 1 (by decide) (hts _ tw_44) (fun _ h9 => h9) rfl dRo_noteDifferent_83 ?_
            refine lv_iconst (v := nI 1) hx hb dRo_noteDifferent_86 (by decide) ?_
            refine lv_iadd hx hb dRo_noteDifferent_87 ?_
            refine tp_i (show ((nI d) + (nI 1)) = (nI (d + 1)) from nI_add _ _) ?_
            refine va_put (D := D) (ci := 5) (v := .int (nI (d + 1))) (ty := .int) (C := "ColumnForms$Row") (T := TRo) (N := 9) hx hb hts inRo tyRo tyRo_ok nmRo hown hK hP hD hS 0 rfl rfl 1 (by decide) (hts _ tw_44) (fun _ h9 => h9) rfl (by decide +kernel) rfl rfl (Nat.le_of_ble_eq_true rfl) dRo_noteDifferent_88 (fun H locs hP hD hS => ?_)
            have hP : va_P D vwCl [(qr, .inr (5, [.int (nI n), .int (nI (d + 1)), .int (nI rn), .long lo, .long hi, .long sl, .long sh, .ref qc, .ref qs])), (qs, .inl (cJ, 1024, .inr (.inl (rIns rs d t v))))] H := hP
            have hD : va_D A [(qr, .inr (5, [.int (nI n), .int (nI (d + 1)), .int (nI rn), .long lo, .long hi, .long sl, .long sh, .ref qc, .ref qs])), (qs, .inl (cJ, 1024, .inr (.inl (rIns rs d t v))))] := hD
            exact hret (d + 1, rIns rs d t v) _ _ _ _ _ _ ⟨rInv_new hI ht (fun h => absurd h.1 (by omega)), trivial⟩ (hP.sub [0, 1] rfl) (hD.sub [0, 1] (by decide) rfl) hS (Nat.le_of_ble_eq_true rfl) (Nat.le_of_ble_eq_true rfl) dRo_noteDifferent_91
          · have c49 : ¬ d < 1024 := fun h => c49 ((nI_ltI (by omega) (by omega)).mpr h)
            exact absurd c49 (by omega)
  · have c5 : ¬ d ≤ t := fun h => c5 ((nI_leI (by omega) (by omega)).mpr h)
    refine lv_aload_n hx hb dRo_noteDifferent_8 rfl (lv_at hl 0 rfl) ?_
    refine lv_iload_n hx hb dRo_noteDifferent_9 rfl (lv_at hl 2 rfl) ?_
    refine kc_l (wc := [(qr, .inr (5, [.int (nI n), .int (nI d), .int (nI rn), .long lo, .long hi, .long sl, .long sh, .ref qc, .ref qs])), (qs, .inl (cJ, 1024, .inr (.inl rs)))]) (wr := []) hP hD hS hA [0, 1] [] rfl rfl (by decide) (by decide) (by decide) (fun hPc hDc => va_runV (As := [.int (nI t)]) (rest := []) ⟨hx, hb, hml, hown, hts⟩ (c_difAt l D cJ cB cI cF qr n d rn lo hi sl sh qc qs rs t _ (by omega) (by omega)) (cwV 1 hts (wsG_k tw_274 (wsG_k tw_275 (wsG_k tw_276 (wsG_k tw_2 (wsG_c tw_277))))) rfl rfl rfl (by decide +kernel) ⟨Nat.le_of_ble_eq_true rfl, Nat.le_of_ble_eq_true rfl⟩) ⟨cf_blind, va_recv hK hPc (ci := 5) (q0 := 0) rfl rfl, cf_pre hPc hK hDc hWd⟩ rfl rfl hl.1 rfl (lv_room (Nat.le_of_ble_eq_true rfl)) dRo_noteDifferent_10 ⟨Nat.le_of_ble_eq_true rfl, Nat.le_of_ble_eq_true rfl⟩) (fun r u H locs hw hP hD hS => ?_)
    obtain ⟨rfl, -⟩ := hw
    have hP : va_P D vwCl [(qr, .inr (5, [.int (nI n), .int (nI d), .int (nI rn), .long lo, .long hi, .long sl, .long sh, .ref qc, .ref qs])), (qs, .inl (cJ, 1024, .inr (.inl rs)))] H := hP
    have hD : va_D A [(qr, .inr (5, [.int (nI n), .int (nI d), .int (nI rn), .long lo, .long hi, .long sl, .long sh, .ref qc, .ref qs])), (qs, .inl (cJ, 1024, .inr (.inl rs)))] := hD
    refine lv_lload_n hx hb dRo_noteDifferent_13 rfl (lv_at hl 1 rfl) ?_
    refine W.lcmp hx hb dRo_noteDifferent_14 ?_
    refine lv_if_ne (tgt := 22) hx hb dRo_noteDifferent_15 (by decide) (fun c15 => ?_) (fun c15 => ?_)
    · have c15 : ¬ (rs t) = v := fun h => c15 ((lg_cmp_eq _ _).mpr h)
      refine lv_iconst (v := nI 0) hx hb dRo_noteDifferent_22 (by decide) ?_
      refine lv_istore (lv' := [(4, .int (nI 0)), (0, .ref qr), (1, .long v), (3, .int (nI t))]) hx hb dRo_noteDifferent_23 hl (by decide) rfl (fun ls hl => ?_)
      refine lv_iload hx hb dRo_noteDifferent_25 (lv_at hl 0 rfl) ?_
      refine lv_if_ne (tgt := 52) hx hb dRo_noteDifferent_27 (by decide) (fun c27 => ?_) (fun c27 => ?_)
      · have c27 : ¬ 0 = 0 := fun h => c27 ((nI_eq (b := 0) (by omega) (by omega)).mpr h)
        exact absurd c27 (by decide)
      · have c27 : 0 = 0 := (nI_eq (b := 0) (by omega) (by omega)).mp c27
        refine lv_iload_n hx hb dRo_noteDifferent_30 rfl (lv_at hl 3 rfl) ?_
        refine lv_if_lt (tgt := 52) hx hb dRo_noteDifferent_31 (by decide) (fun c31 => ?_) (fun c31 => ?_)
        · have c31 : t < 0 := (nI_ltI (b := 0) (by omega) (by omega)).mp c31
          exact absurd c31 (by omega)
        · have c31 : ¬ t < 0 := fun h => c31 ((nI_ltI (b := 0) (by omega) (by omega)).mpr h)
          refine lv_iload_n hx hb dRo_noteDifferent_34 rfl (lv_at hl 3 rfl) ?_
          refine lv_aload_n hx hb dRo_noteDifferent_35 rfl (lv_at hl 1 rfl) ?_
          refine va_get (D := D) (ci := 5) (v := .int (nI d)) (C := "ColumnForms$Row") (T := TRo) (N := 9) hx hb hts inRo hown hK hP 0 rfl rfl 1 (by decide) (hts _ tw_44) (fun _ h9 => h9) rfl dRo_noteDifferent_36 ?_
          refine lv_icmp_gt (tgt := 52) hx hb dRo_noteDifferent_39 (by decide) (fun c39 => ?_) (fun c39 => ?_)
          · have c39 : d < t := (nI_ltI (by omega) (by omega)).mp c39
            exact absurd c39 (by omega)
          · have c39 : ¬ d < t := fun h => c39 ((nI_ltI (by omega) (by omega)).mpr h)
            refine lv_aload_n hx hb dRo_noteDifferent_42 rfl (lv_at hl 1 rfl) ?_
            refine va_get (D := D) (ci := 5) (v := .int (nI d)) (C := "ColumnForms$Row") (T := TRo) (N := 9) hx hb hts inRo hown hK hP 0 rfl rfl 1 (by decide) (hts _ tw_44) (fun _ h9 => h9) rfl dRo_noteDifferent_43 ?_
            refine lv_sipush (v := nI 1024) hx hb dRo_noteDifferent_46 (by decide) ?_
            refine lv_icmp_lt (tgt := 53) hx hb dRo_noteDifferent_49 (by decide) (fun c49 => ?_) (fun c49 => ?_)
            · have c49 : d < 1024 := (nI_ltI (by omega) (by omega)).mp c49
              refine lv_aload_n hx hb dRo_noteDifferent_53 rfl (lv_at hl 1 rfl) ?_
              refine va_get (D := D) (ci := 5) (v := .ref qs) (C := "ColumnForms$Row") (T := TRo) (N := 9) hx hb hts inRo hown hK hP 0 rfl rfl 8 (by decide) (hts _ tw_56) (fun _ h9 => h9) rfl dRo_noteDifferent_54 ?_
              refine lv_iload_n hx hb dRo_noteDifferent_57 rfl (lv_at hl 3 rfl) ?_
              refine lv_aload_n hx hb dRo_noteDifferent_58 rfl (lv_at hl 1 rfl) ?_
              refine va_get (D := D) (ci := 5) (v := .ref qs) (C := "ColumnForms$Row") (T := TRo) (N := 9) hx hb hts inRo hown hK hP 0 rfl rfl 8 (by decide) (hts _ tw_56) (fun _ h9 => h9) rfl dRo_noteDifferent_59 ?_
              refine lv_iload_n hx hb dRo_noteDifferent_62 rfl (lv_at hl 3 rfl) ?_
              refine lv_iconst (v := nI 1) hx hb dRo_noteDifferent_63 (by decide) ?_
              refine lv_iadd hx hb dRo_noteDifferent_64 ?_
              refine tp_i (show ((nI t) + (nI 1)) = (nI (t + 1)) from nI_add _ _) ?_
              refine lv_aload_n hx hb dRo_noteDifferent_65 rfl (lv_at hl 1 rfl) ?_
              refine va_get (D := D) (ci := 5) (v := .int (nI d)) (C := "ColumnForms$Row") (T := TRo) (N := 9) hx hb hts inRo hown hK hP 0 rfl rfl 1 (by decide) (hts _ tw_44) (fun _ h9 => h9) rfl dRo_noteDifferent_66 ?_
              refine lv_iload_n hx hb dRo_noteDifferent_69 rfl (lv_at hl 3 rfl) ?_
              refine lv_isub hx hb dRo_noteDifferent_70 ?_
              refine tp_i (show ((nI d) - (nI t)) = (nI (d - t)) from pk_sub (by omega)) ?_
              refine va_copyl hx hb (hml.trans hl.1.symm) hown (hts _ tw_282) (hts _ tw_284) (hts _ tw_283) (hts _ tw_16) hK hP hD hS 1 1 0 0 rfl rfl rfl rfl rfl (nI_pos (by omega)) (nI_pos (by omega)) (nI_pos (by omega)) (by rw [nI_clamp (by omega), nI_clamp (by omega)]; omega) (by rw [nI_clamp (by omega), nI_clamp (by omega)]; omega) (fun i hi => rfl) (Nat.le_of_ble_eq_true rfl) (Nat.le_of_ble_eq_true rfl) dRo_noteDifferent_71 (fun H locs hP hD hS => ?_)
              rw [nI_clamp (by omega), nI_clamp (by omega), nI_clamp (by omega)] at hP hD
              have hP : va_P D vwCl [(qr, .inr (5, [.int (nI n), .int (nI d), .int (nI rn), .long lo, .long hi, .long sl, .long sh, .ref qc, .ref qs])), (qs, .inl (cJ, 1024, .inr (.inl (va_cpy rs rs t (t + 1) (d - t)))))] H := hP
              have hD : va_D A [(qr, .inr (5, [.int (nI n), .int (nI d), .int (nI rn), .long lo, .long hi, .long sl, .long sh, .ref qc, .ref qs])), (qs, .inl (cJ, 1024, .inr (.inl (va_cpy rs rs t (t + 1) (d - t)))))] := hD
              refine lv_aload_n hx hb dRo_noteDifferent_74 rfl (lv_at hl 1 rfl) ?_
              refine va_get (D := D) (ci := 5) (v := .ref qs) (C := "ColumnForms$Row") (T := TRo) (N := 9) hx hb hts inRo hown hK hP 0 rfl rfl 8 (by decide) (hts _ tw_56) (fun _ h9 => h9) rfl dRo_noteDifferent_75 ?_
              refine lv_iload_n hx hb dRo_noteDifferent_78 rfl (lv_at hl 3 rfl) ?_
              refine lv_lload_n hx hb dRo_noteDifferent_79 rfl (lv_at hl 2 rfl) ?_
              refine va_last hx hb hK hP hD hS 1 0 rfl rfl (vp_in_nI (by omega) (by omega)) dRo_noteDifferent_80 (fun H locs hP hD hS => ?_)
              rw [nI_clamp (by omega)] at hP hD
              have hP : va_P D vwCl [(qr, .inr (5, [.int (nI n), .int (nI d), .int (nI rn), .long lo, .long hi, .long sl, .long sh, .ref qc, .ref qs])), (qs, .inl (cJ, 1024, .inr (.inl (vp_updL (va_cpy rs rs t (t + 1) (d - t)) t v))))] H := hP
              have hD : va_D A [(qr, .inr (5, [.int (nI n), .int (nI d), .int (nI rn), .long lo, .long hi, .long sl, .long sh, .ref qc, .ref qs])), (qs, .inl (cJ, 1024, .inr (.inl (vp_updL (va_cpy rs rs t (t + 1) (d - t)) t v))))] := hD
              have hP : va_P D vwCl [(qr, .inr (5, [.int (nI n), .int (nI d), .int (nI rn), .long lo, .long hi, .long sl, .long sh, .ref qc, .ref qs])), (qs, .inl (cJ, 1024, .inr (.inl (rIns rs d t v))))] H := hP
              have hD : va_D A [(qr, .inr (5, [.int (nI n), .int (nI d), .int (nI rn), .long lo, .long hi, .long sl, .long sh, .ref qc, .ref qs])), (qs, .inl (cJ, 1024, .inr (.inl (rIns rs d t v))))] := hD
              refine lv_aload_n hx hb dRo_noteDifferent_81 rfl (lv_at hl 1 rfl) ?_
              refine lv_dup hx hb dRo_noteDifferent_82 rfl ?_
              refine va_get (D := D) (ci := 5) (v := .int (nI d)) (C := "ColumnForms$Row") (T := TRo) (N := 9) hx hb hts inRo hown hK hP 0 rfl rfl 1 (by decide) (hts _ tw_44) (fun _ h9 => h9) rfl dRo_noteDifferent_83 ?_
              refine lv_iconst (v := nI 1) hx hb dRo_noteDifferent_86 (by decide) ?_
              refine lv_iadd hx hb dRo_noteDifferent_87 ?_
              refine tp_i (show ((nI d) + (nI 1)) = (nI (d + 1)) from nI_add _ _) ?_
              refine va_put (D := D) (ci := 5) (v := .int (nI (d + 1))) (ty := .int) (C := "ColumnForms$Row") (T := TRo) (N := 9) hx hb hts inRo tyRo tyRo_ok nmRo hown hK hP hD hS 0 rfl rfl 1 (by decide) (hts _ tw_44) (fun _ h9 => h9) rfl (by decide +kernel) rfl rfl (Nat.le_of_ble_eq_true rfl) dRo_noteDifferent_88 (fun H locs hP hD hS => ?_)
              have hP : va_P D vwCl [(qr, .inr (5, [.int (nI n), .int (nI (d + 1)), .int (nI rn), .long lo, .long hi, .long sl, .long sh, .ref qc, .ref qs])), (qs, .inl (cJ, 1024, .inr (.inl (rIns rs d t v))))] H := hP
              have hD : va_D A [(qr, .inr (5, [.int (nI n), .int (nI (d + 1)), .int (nI rn), .long lo, .long hi, .long sl, .long sh, .ref qc, .ref qs])), (qs, .inl (cJ, 1024, .inr (.inl (rIns rs d t v))))] := hD
              exact hret (d + 1, rIns rs d t v) _ _ _ _ _ _ ⟨rInv_new hI ht (fun h => c15 h.2), trivial⟩ (hP.sub [0, 1] rfl) (hD.sub [0, 1] (by decide) rfl) hS (Nat.le_of_ble_eq_true rfl) (Nat.le_of_ble_eq_true rfl) dRo_noteDifferent_91
            · have c49 : ¬ d < 1024 := fun h => c49 ((nI_ltI (by omega) (by omega)).mpr h)
              exact absurd c49 (by omega)
    · have c15 : (rs t) = v := (lg_cmp_eq _ _).mp c15
      refine lv_iconst (v := nI 1) hx hb dRo_noteDifferent_18 (by decide) ?_
      refine lv_goto (tgt := 23) hx hb dRo_noteDifferent_19 (by decide) ?_
      refine lv_istore (lv' := [(4, .int (nI 1)), (0, .ref qr), (1, .long v), (3, .int (nI t))]) hx hb dRo_noteDifferent_23 hl (by decide) rfl (fun ls hl => ?_)
      refine lv_iload hx hb dRo_noteDifferent_25 (lv_at hl 0 rfl) ?_
      refine lv_if_ne (tgt := 52) hx hb dRo_noteDifferent_27 (by decide) (fun c27 => ?_) (fun c27 => ?_)
      · have c27 : ¬ 1 = 0 := fun h => c27 ((nI_eq (b := 0) (by omega) (by omega)).mpr h)
        exact hret (d, rs) _ _ _ _ _ _ ⟨rInv_old hI (Nat.not_le.mp c5) c15, trivial⟩ (hP.sub [0, 1] rfl) (hD.sub [0, 1] (by decide) rfl) hS (Nat.le_of_ble_eq_true rfl) (Nat.le_of_ble_eq_true rfl) dRo_noteDifferent_52
      · have c27 : 1 = 0 := (nI_eq (b := 0) (by omega) (by omega)).mp c27
        exact absurd c27 (by decide)

set_option maxHeartbeats 4000000 in
set_option maxRecDepth 100000 in
theorem c_add (l : Launch) (D : va_G) (cJ cB cI cF : ClassId) (qr : Nat) (n : Nat) (d : Nat) (rn : Nat) (lo : Int64) (hi : Int64) (sl : Int64) (sh : Int64) (qc : Nat) (qs : Nat) (xs : Nat → Int64) (rs : Nat → Int64) (v : Int64) (sz : Nat) (hR : rAll xs n d rn lo hi sl sh rs) (hn : n < 1024) : Met l yRo_add (Cond.code yRo_add cRo_add 3 none :: wsG) ({ frames := 2, cells := 0, slots := 0, locals := 45 }) (va_Pc [.ref qr, .long v] (cfPre D (cfT cJ cB cI cF) [(qr, .inr (5, [.int (nI n), .int (nI d), .int (nI rn), .long lo, .long hi, .long sl, .long sh, .ref qc, .ref qs])), (qc, .inl (cJ, 1024, .inr (.inl xs))), (qs, .inl (cJ, 1024, .inr (.inl rs)))] sz)) (va_Qv (fun (u : Nat × Nat × Int64 × Int64 × Int64 × Int64 × (Nat → Int64)) => (rAll (vp_updL xs n v) (n + 1) u.1 u.2.1 u.2.2.1 u.2.2.2.1 u.2.2.2.2.1 u.2.2.2.2.2.1 u.2.2.2.2.2.2) ∧ True) (fun u t => cfPost D ((fun (u : Nat × Nat × Int64 × Int64 × Int64 × Int64 × (Nat → Int64)) => [(qr, .inr (5, [.int (nI (n + 1)), .int (nI u.1), .int (nI u.2.1), .long u.2.2.1, .long u.2.2.2.1, .long u.2.2.2.2.1, .long u.2.2.2.2.2.1, .ref qc, .ref qs])), (qc, .inl (cJ, 1024, .inr (.inl (vp_updL xs n v)))), (qs, .inl (cJ, 1024, .inr (.inl u.2.2.2.2.2.2)))]) u) (va_A [(qr, .inr (5, [.int (nI n), .int (nI d), .int (nI rn), .long lo, .long hi, .long sl, .long sh, .ref qc, .ref qs])), (qc, .inl (cJ, 1024, .inr (.inl xs))), (qs, .inl (cJ, 1024, .inr (.inl rs)))] sz) t) (va_A [(qr, .inr (5, [.int (nI n), .int (nI d), .int (nI rn), .long lo, .long hi, .long sl, .long sh, .ref qc, .ref qs])), (qc, .inl (cJ, 1024, .inr (.inl xs))), (qs, .inl (cJ, 1024, .inr (.inl rs)))] sz)) 0 0 (va_A [(qr, .inr (5, [.int (nI n), .int (nI d), .int (nI rn), .long lo, .long hi, .long sl, .long sh, .ref qc, .ref qs])), (qc, .inl (cJ, 1024, .inr (.inl xs))), (qs, .inl (cJ, 1024, .inr (.inl rs)))] sz) := by
  refine met_v (cc := cRo_add) (maxL := 3) (S := Nat × Nat × Int64 × Int64 × Int64 × Int64 × (Nat → Int64)) (D := D) (wO := fun (u : Nat × Nat × Int64 × Int64 × Int64 × Int64 × (Nat → Int64)) => [(qr, .inr (5, [.int (nI (n + 1)), .int (nI u.1), .int (nI u.2.1), .long u.2.2.1, .long u.2.2.2.1, .long u.2.2.2.2.1, .long u.2.2.2.2.2.1, .ref qc, .ref qs])), (qc, .inl (cJ, 1024, .inr (.inl (vp_updL xs n v)))), (qs, .inl (cJ, 1024, .inr (.inl u.2.2.2.2.2.2)))]) (by decide) (Nat.le_of_ble_eq_true rfl) ?_
  intro p e s m below meth c hx hb hml hown hts hlocks hin hWd A hA hsz hP hK hD hS Q hret ls hl
  have hown : s.vm.findClass "ColumnForms$Row" = some m.cls := hown
  have hl : lv_has ls 3 [(0, .ref qr), (1, .long v)] := hl
  have hP : va_P D vwCl [(qr, .inr (5, [.int (nI n), .int (nI d), .int (nI rn), .long lo, .long hi, .long sl, .long sh, .ref qc, .ref qs])), (qc, .inl (cJ, 1024, .inr (.inl xs))), (qs, .inl (cJ, 1024, .inr (.inl rs)))] s.heap := hP
  have hI := hR.2.1
  have hrn : rn ≤ n := by rw [hR.2.2.1]; exact rRn_le n
  obtain ⟨t, ht⟩ := rPl_ex v hI.1
  refine lv_aload_n hx hb dRo_add_0 rfl (lv_at hl 0 rfl) ?_
  refine va_get (D := D) (ci := 5) (v := .int (nI n)) (C := "ColumnForms$Row") (T := TRo) (N := 9) hx hb hts inRo hown hK hP 0 rfl rfl 0 (by decide) (hts _ tw_40) (fun _ h9 => h9) rfl dRo_add_1 ?_
  refine lv_sipush (v := nI 1024) hx hb dRo_add_4 (by decide) ?_
  refine lv_icmp_lt (tgt := 11) hx hb dRo_add_7 (by decide) (fun c7 => ?_) (fun c7 => ?_)
  · have c7 : n < 1024 := (nI_ltI (by omega) (by omega)).mp c7
    refine lv_aload_n hx hb dRo_add_11 rfl (lv_at hl 0 rfl) ?_
    refine va_get (D := D) (ci := 5) (v := .int (nI n)) (C := "ColumnForms$Row") (T := TRo) (N := 9) hx hb hts inRo hown hK hP 0 rfl rfl 0 (by decide) (hts _ tw_40) (fun _ h9 => h9) rfl dRo_add_12 ?_
    refine lv_if_ne (tgt := 26) hx hb dRo_add_15 (by decide) (fun c15 => ?_) (fun c15 => ?_)
    · have c15 : ¬ n = 0 := fun h => c15 ((nI_eq (b := 0) (by omega) (by omega)).mpr h)
      refine lv_aload_n hx hb dRo_add_26 rfl (lv_at hl 0 rfl) ?_
      refine lv_lload_n hx hb dRo_add_27 rfl (lv_at hl 1 rfl) ?_
      refine lv_lload_n hx hb dRo_add_28 rfl (lv_at hl 1 rfl) ?_
      refine lv_aload_n hx hb dRo_add_29 rfl (lv_at hl 0 rfl) ?_
      refine lv_aload_n hx hb dRo_add_30 rfl (lv_at hl 0 rfl) ?_
      refine va_get (D := D) (ci := 5) (v := .int (nI n)) (C := "ColumnForms$Row") (T := TRo) (N := 9) hx hb hts inRo hown hK hP 0 rfl rfl 0 (by decide) (hts _ tw_40) (fun _ h9 => h9) rfl dRo_add_31 ?_
      refine lv_iconst (v := nI 1) hx hb dRo_add_34 (by decide) ?_
      refine lv_isub hx hb dRo_add_35 ?_
      refine tp_i (show ((nI n) - (nI 1)) = (nI (n - 1)) from pk_sub (by omega)) ?_
      refine kc_l (wc := [(qr, .inr (5, [.int (nI n), .int (nI d), .int (nI rn), .long lo, .long hi, .long sl, .long sh, .ref qc, .ref qs])), (qc, .inl (cJ, 1024, .inr (.inl xs)))]) (wr := [(qs, .inl (cJ, 1024, .inr (.inl rs)))]) hP hD hS hA [0, 1] [2] rfl rfl (by decide) (by decide) (by decide) (fun hPc hDc => va_runV (As := [.int (nI (n - 1))]) (rest := [.long v, .long v, .ref qr]) ⟨hx, hb, hml, hown, hts⟩ (c_at l D cJ cB cI cF qr n d rn lo hi sl sh qc qs xs (n - 1) _ (by omega) (by omega)) (cwV 1 hts (wsG_k tw_256 (wsG_k tw_257 (wsG_k tw_258 (wsG_k tw_2 (wsG_c tw_259))))) rfl rfl rfl (by decide +kernel) ⟨Nat.le_of_ble_eq_true rfl, Nat.le_of_ble_eq_true rfl⟩) ⟨cf_blind, va_recv hK hPc (ci := 5) (q0 := 0) rfl rfl, cf_pre hPc hK hDc hWd⟩ rfl rfl hl.1 rfl (lv_room (Nat.le_of_ble_eq_true rfl)) dRo_add_36 ⟨Nat.le_of_ble_eq_true rfl, Nat.le_of_ble_eq_true rfl⟩) (fun r u H locs hw hP hD hS => ?_)
      obtain ⟨rfl, -⟩ := hw
      have hP : va_P D vwCl [(qs, .inl (cJ, 1024, .inr (.inl rs))), (qr, .inr (5, [.int (nI n), .int (nI d), .int (nI rn), .long lo, .long hi, .long sl, .long sh, .ref qc, .ref qs])), (qc, .inl (cJ, 1024, .inr (.inl xs)))] H := hP
      have hD : va_D A [(qs, .inl (cJ, 1024, .inr (.inl rs))), (qr, .inr (5, [.int (nI n), .int (nI d), .int (nI rn), .long lo, .long hi, .long sl, .long sh, .ref qc, .ref qs])), (qc, .inl (cJ, 1024, .inr (.inl xs)))] := hD
      refine lv_lsub hx hb dRo_add_39 ?_
      refine kc_v (wc := [(qr, .inr (5, [.int (nI n), .int (nI d), .int (nI rn), .long lo, .long hi, .long sl, .long sh, .ref qc, .ref qs]))]) (wr := [(qs, .inl (cJ, 1024, .inr (.inl rs))), (qc, .inl (cJ, 1024, .inr (.inl xs)))]) hP hD hS hA [1] [0, 2] rfl rfl (by decide) (by decide) (by decide) (fun hPc hDc => va_runV (As := [.long v, .long (v - (xs (n - 1)))]) (rest := []) ⟨hx, hb, hml, hown, hts⟩ (c_noteNext l D cJ cB cI cF qr n d rn lo hi sl sh qc qs v (v - (xs (n - 1))) _ (by omega) (by omega) (by omega)) (cwV 2 hts (wsG_k tw_260 (wsG_k tw_262 (wsG_k tp_w2 (wsG_k tw_2 (wsG_c tw_263))))) rfl rfl rfl (by decide +kernel) ⟨Nat.le_of_ble_eq_true rfl, Nat.le_of_ble_eq_true rfl⟩) ⟨cf_blind, va_recv hK hPc (ci := 5) (q0 := 0) rfl rfl, cf_pre hPc hK hDc hWd⟩ rfl rfl hl.1 rfl (lv_room (Nat.le_of_ble_eq_true rfl)) dRo_add_40 ⟨Nat.le_of_ble_eq_true rfl, Nat.le_of_ble_eq_true rfl⟩) (fun u H locs hw hP hD hS => ?_)
      obtain ⟨rn2_1, sl2_2, sh2_3⟩ := u
      obtain ⟨f1, f2, f3, -⟩ := hw
      have f1 : rn2_1 = rn + (if (v - (xs (n - 1))) = 0 then 0 else 1) := f1
      have f2 : sl2_2 = if n = 1 then (v - (xs (n - 1))) else lMin sl (v - (xs (n - 1))) := f2
      have f3 : sh2_3 = if n = 1 then (v - (xs (n - 1))) else lMax sh (v - (xs (n - 1))) := f3
      have hP : va_P D vwCl [(qs, .inl (cJ, 1024, .inr (.inl rs))), (qc, .inl (cJ, 1024, .inr (.inl xs))), (qr, .inr (5, [.int (nI n), .int (nI d), .int (nI rn2_1), .long (lMin lo v), .long (lMax hi v), .long sl2_2, .long sh2_3, .ref qc, .ref qs]))] H := hP
      have hD : va_D A [(qs, .inl (cJ, 1024, .inr (.inl rs))), (qc, .inl (cJ, 1024, .inr (.inl xs))), (qr, .inr (5, [.int (nI n), .int (nI d), .int (nI rn2_1), .long (lMin lo v), .long (lMax hi v), .long sl2_2, .long sh2_3, .ref qc, .ref qs]))] := hD
      refine lv_aload_n hx hb dRo_add_43 rfl (lv_at hl 0 rfl) ?_
      refine lv_lload_n hx hb dRo_add_44 rfl (lv_at hl 1 rfl) ?_
      refine lv_aload_n hx hb dRo_add_45 rfl (lv_at hl 0 rfl) ?_
      refine lv_lload_n hx hb dRo_add_46 rfl (lv_at hl 1 rfl) ?_
      refine kc_i (wc := [(qr, .inr (5, [.int (nI n), .int (nI d), .int (nI rn2_1), .long (lMin lo v), .long (lMax hi v), .long sl2_2, .long sh2_3, .ref qc, .ref qs])), (qs, .inl (cJ, 1024, .inr (.inl rs)))]) (wr := [(qc, .inl (cJ, 1024, .inr (.inl xs)))]) hP hD hS hA [2, 0] [1] rfl rfl (by decide) (by decide) (by decide) (fun hPc hDc => va_runV (As := [.long v]) (rest := [.long v, .ref qr]) ⟨hx, hb, hml, hown, hts⟩ (c_placeOf l D cJ cB cI cF qr n d rn2_1 (lMin lo v) (lMax hi v) sl2_2 sh2_3 qc qs rs v _ _ (by have := hI.2.1; omega) (ht)) (cwV 1 hts (wsG_k tw_270 (wsG_k tw_271 (wsG_k tw_272 (wsG_k tw_2 (wsG_c tw_273))))) rfl rfl rfl (by decide +kernel) ⟨Nat.le_of_ble_eq_true rfl, Nat.le_of_ble_eq_true rfl⟩) ⟨cf_blind, va_recv hK hPc (ci := 5) (q0 := 0) rfl rfl, cf_pre hPc hK hDc hWd⟩ rfl rfl hl.1 rfl (lv_room (Nat.le_of_ble_eq_true rfl)) dRo_add_47 ⟨Nat.le_of_ble_eq_true rfl, Nat.le_of_ble_eq_true rfl⟩) (fun r u H locs hw hP hD hS => ?_)
      obtain ⟨rfl, -⟩ := hw
      have hP : va_P D vwCl [(qc, .inl (cJ, 1024, .inr (.inl xs))), (qr, .inr (5, [.int (nI n), .int (nI d), .int (nI rn2_1), .long (lMin lo v), .long (lMax hi v), .long sl2_2, .long sh2_3, .ref qc, .ref qs])), (qs, .inl (cJ, 1024, .inr (.inl rs)))] H := hP
      have hD : va_D A [(qc, .inl (cJ, 1024, .inr (.inl xs))), (qr, .inr (5, [.int (nI n), .int (nI d), .int (nI rn2_1), .long (lMin lo v), .long (lMax hi v), .long sl2_2, .long sh2_3, .ref qc, .ref qs])), (qs, .inl (cJ, 1024, .inr (.inl rs)))] := hD
      refine kc_v (wc := [(qr, .inr (5, [.int (nI n), .int (nI d), .int (nI rn2_1), .long (lMin lo v), .long (lMax hi v), .long sl2_2, .long sh2_3, .ref qc, .ref qs])), (qs, .inl (cJ, 1024, .inr (.inl rs)))]) (wr := [(qc, .inl (cJ, 1024, .inr (.inl xs)))]) hP hD hS hA [1, 2] [0] rfl rfl (by decide) (by decide) (by decide) (fun hPc hDc => va_runV (As := [.long v, .int (nI t)]) (rest := []) ⟨hx, hb, hml, hown, hts⟩ (c_noteDif l D cJ cB cI cF qr n d rn2_1 (lMin lo v) (lMax hi v) sl2_2 sh2_3 qc qs _ rs v t _ (hI) (hn) (ht)) (cwV 2 hts (wsG_k tw_278 (wsG_k tw_280 (wsG_k tp_w3 (wsG_k tw_2 (wsG_c tw_281))))) rfl rfl rfl (by decide +kernel) ⟨Nat.le_of_ble_eq_true rfl, Nat.le_of_ble_eq_true rfl⟩) ⟨cf_blind, va_recv hK hPc (ci := 5) (q0 := 0) rfl rfl, cf_pre hPc hK hDc hWd⟩ rfl rfl hl.1 rfl (lv_room (Nat.le_of_ble_eq_true rfl)) dRo_add_50 ⟨Nat.le_of_ble_eq_true rfl, Nat.le_of_ble_eq_true rfl⟩) (fun u H locs hw hP hD hS => ?_)
      obtain ⟨d2_4, rs2_5⟩ := u
      obtain ⟨g1, -⟩ := hw
      have hP : va_P D vwCl [(qc, .inl (cJ, 1024, .inr (.inl xs))), (qr, .inr (5, [.int (nI n), .int (nI d2_4), .int (nI rn2_1), .long (lMin lo v), .long (lMax hi v), .long sl2_2, .long sh2_3, .ref qc, .ref qs])), (qs, .inl (cJ, 1024, .inr (.inl rs2_5)))] H := hP
      have hD : va_D A [(qc, .inl (cJ, 1024, .inr (.inl xs))), (qr, .inr (5, [.int (nI n), .int (nI d2_4), .int (nI rn2_1), .long (lMin lo v), .long (lMax hi v), .long sl2_2, .long sh2_3, .ref qc, .ref qs])), (qs, .inl (cJ, 1024, .inr (.inl rs2_5)))] := hD
      refine lv_aload_n hx hb dRo_add_53 rfl (lv_at hl 0 rfl) ?_
      refine va_get (D := D) (ci := 5) (v := .ref qc) (C := "ColumnForms$Row") (T := TRo) (N := 9) hx hb hts inRo hown hK hP 1 rfl rfl 7 (by decide) (hts _ tw_55) (fun _ h9 => h9) rfl dRo_add_54 ?_
      refine lv_aload_n hx hb dRo_add_57 rfl (lv_at hl 0 rfl) ?_
      refine va_get (D := D) (ci := 5) (v := .int (nI n)) (C := "ColumnForms$Row") (T := TRo) (N := 9) hx hb hts inRo hown hK hP 1 rfl rfl 0 (by decide) (hts _ tw_40) (fun _ h9 => h9) rfl dRo_add_58 ?_
      refine lv_lload_n hx hb dRo_add_61 rfl (lv_at hl 1 rfl) ?_
      refine va_last hx hb hK hP hD hS 0 0 rfl rfl (vp_in_nI (by omega) (by omega)) dRo_add_62 (fun H locs hP hD hS => ?_)
      rw [nI_clamp (by omega)] at hP hD
      have hP : va_P D vwCl [(qc, .inl (cJ, 1024, .inr (.inl (vp_updL xs n v)))), (qr, .inr (5, [.int (nI n), .int (nI d2_4), .int (nI rn2_1), .long (lMin lo v), .long (lMax hi v), .long sl2_2, .long sh2_3, .ref qc, .ref qs])), (qs, .inl (cJ, 1024, .inr (.inl rs2_5)))] H := hP
      have hD : va_D A [(qc, .inl (cJ, 1024, .inr (.inl (vp_updL xs n v)))), (qr, .inr (5, [.int (nI n), .int (nI d2_4), .int (nI rn2_1), .long (lMin lo v), .long (lMax hi v), .long sl2_2, .long sh2_3, .ref qc, .ref qs])), (qs, .inl (cJ, 1024, .inr (.inl rs2_5)))] := hD
      refine lv_aload_n hx hb dRo_add_63 rfl (lv_at hl 0 rfl) ?_
      refine lv_dup hx hb dRo_add_64 rfl ?_
      refine va_get (D := D) (ci := 5) (v := .int (nI n)) (C := "ColumnForms$Row") (T := TRo) (N := 9) hx hb hts inRo hown hK hP 1 rfl rfl 0 (by decide) (hts _ tw_40) (fun _ h9 => h9) rfl dRo_add_65 ?_
      refine lv_iconst (v := nI 1) hx hb dRo_add_68 (by decide) ?_
      refine lv_iadd hx hb dRo_add_69 ?_
      refine tp_i (show ((nI n) + (nI 1)) = (nI (n + 1)) from nI_add _ _) ?_
      refine va_put (D := D) (ci := 5) (v := .int (nI (n + 1))) (ty := .int) (C := "ColumnForms$Row") (T := TRo) (N := 9) hx hb hts inRo tyRo tyRo_ok nmRo hown hK hP hD hS 1 rfl rfl 0 (by decide) (hts _ tw_40) (fun _ h9 => h9) rfl (by decide +kernel) rfl rfl (Nat.le_of_ble_eq_true rfl) dRo_add_70 (fun H locs hP hD hS => ?_)
      have hP : va_P D vwCl [(qc, .inl (cJ, 1024, .inr (.inl (vp_updL xs n v)))), (qr, .inr (5, [.int (nI (n + 1)), .int (nI d2_4), .int (nI rn2_1), .long (lMin lo v), .long (lMax hi v), .long sl2_2, .long sh2_3, .ref qc, .ref qs])), (qs, .inl (cJ, 1024, .inr (.inl rs2_5)))] H := hP
      have hD : va_D A [(qc, .inl (cJ, 1024, .inr (.inl (vp_updL xs n v)))), (qr, .inr (5, [.int (nI (n + 1)), .int (nI d2_4), .int (nI rn2_1), .long (lMin lo v), .long (lMax hi v), .long sl2_2, .long sh2_3, .ref qc, .ref qs])), (qs, .inl (cJ, 1024, .inr (.inl rs2_5)))] := hD
      exact hret (d2_4, rn2_1, (lMin lo v), (lMax hi v), sl2_2, sh2_3, rs2_5) _ _ _ _ _ _ ⟨rAll_n hR hn c15 f1 f2 f3 g1, trivial⟩ (hP.sub [1, 0, 2] rfl) (hD.sub [1, 0, 2] (by decide) rfl) hS (Nat.le_of_ble_eq_true rfl) (Nat.le_of_ble_eq_true rfl) dRo_add_73
    · have c15 : n = 0 := (nI_eq (b := 0) (by omega) (by omega)).mp c15
      refine lv_aload_n hx hb dRo_add_18 rfl (lv_at hl 0 rfl) ?_
      refine lv_lload_n hx hb dRo_add_19 rfl (lv_at hl 1 rfl) ?_
      refine kc_v (wc := [(qr, .inr (5, [.int (nI n), .int (nI d), .int (nI rn), .long lo, .long hi, .long sl, .long sh, .ref qc, .ref qs]))]) (wr := [(qc, .inl (cJ, 1024, .inr (.inl xs))), (qs, .inl (cJ, 1024, .inr (.inl rs)))]) hP hD hS hA [0] [1, 2] rfl rfl (by decide) (by decide) (by decide) (fun hPc hDc => va_runV (As := [.long v]) (rest := []) ⟨hx, hb, hml, hown, hts⟩ (c_noteFirst l D cJ cB cI cF qr n d rn lo hi sl sh qc qs v _) (cwV 1 hts (wsG_k tw_252 (wsG_k tw_254 (wsG_k tp_w1 (wsG_k tw_2 (wsG_c tw_255))))) rfl rfl rfl (by decide +kernel) ⟨Nat.le_of_ble_eq_true rfl, Nat.le_of_ble_eq_true rfl⟩) ⟨cf_blind, va_recv hK hPc (ci := 5) (q0 := 0) rfl rfl, cf_pre hPc hK hDc hWd⟩ rfl rfl hl.1 rfl (lv_room (Nat.le_of_ble_eq_true rfl)) dRo_add_20 ⟨Nat.le_of_ble_eq_true rfl, Nat.le_of_ble_eq_true rfl⟩) (fun u H locs hw hP hD hS => ?_)
      have hP : va_P D vwCl [(qc, .inl (cJ, 1024, .inr (.inl xs))), (qs, .inl (cJ, 1024, .inr (.inl rs))), (qr, .inr (5, [.int (nI n), .int (nI d), .int (nI 1), .long v, .long v, .long 0, .long 0, .ref qc, .ref qs]))] H := hP
      have hD : va_D A [(qc, .inl (cJ, 1024, .inr (.inl xs))), (qs, .inl (cJ, 1024, .inr (.inl rs))), (qr, .inr (5, [.int (nI n), .int (nI d), .int (nI 1), .long v, .long v, .long 0, .long 0, .ref qc, .ref qs]))] := hD
      refine lv_goto (tgt := 43) hx hb dRo_add_23 (by decide) ?_
      refine lv_aload_n hx hb dRo_add_43 rfl (lv_at hl 0 rfl) ?_
      refine lv_lload_n hx hb dRo_add_44 rfl (lv_at hl 1 rfl) ?_
      refine lv_aload_n hx hb dRo_add_45 rfl (lv_at hl 0 rfl) ?_
      refine lv_lload_n hx hb dRo_add_46 rfl (lv_at hl 1 rfl) ?_
      refine kc_i (wc := [(qr, .inr (5, [.int (nI n), .int (nI d), .int (nI 1), .long v, .long v, .long 0, .long 0, .ref qc, .ref qs])), (qs, .inl (cJ, 1024, .inr (.inl rs)))]) (wr := [(qc, .inl (cJ, 1024, .inr (.inl xs)))]) hP hD hS hA [2, 1] [0] rfl rfl (by decide) (by decide) (by decide) (fun hPc hDc => va_runV (As := [.long v]) (rest := [.long v, .ref qr]) ⟨hx, hb, hml, hown, hts⟩ (c_placeOf l D cJ cB cI cF qr n d 1 v v 0 0 qc qs rs v _ _ (by have := hI.2.1; omega) (ht)) (cwV 1 hts (wsG_k tw_270 (wsG_k tw_271 (wsG_k tw_272 (wsG_k tw_2 (wsG_c tw_273))))) rfl rfl rfl (by decide +kernel) ⟨Nat.le_of_ble_eq_true rfl, Nat.le_of_ble_eq_true rfl⟩) ⟨cf_blind, va_recv hK hPc (ci := 5) (q0 := 0) rfl rfl, cf_pre hPc hK hDc hWd⟩ rfl rfl hl.1 rfl (lv_room (Nat.le_of_ble_eq_true rfl)) dRo_add_47 ⟨Nat.le_of_ble_eq_true rfl, Nat.le_of_ble_eq_true rfl⟩) (fun r u H locs hw hP hD hS => ?_)
      obtain ⟨rfl, -⟩ := hw
      have hP : va_P D vwCl [(qc, .inl (cJ, 1024, .inr (.inl xs))), (qr, .inr (5, [.int (nI n), .int (nI d), .int (nI 1), .long v, .long v, .long 0, .long 0, .ref qc, .ref qs])), (qs, .inl (cJ, 1024, .inr (.inl rs)))] H := hP
      have hD : va_D A [(qc, .inl (cJ, 1024, .inr (.inl xs))), (qr, .inr (5, [.int (nI n), .int (nI d), .int (nI 1), .long v, .long v, .long 0, .long 0, .ref qc, .ref qs])), (qs, .inl (cJ, 1024, .inr (.inl rs)))] := hD
      refine kc_v (wc := [(qr, .inr (5, [.int (nI n), .int (nI d), .int (nI 1), .long v, .long v, .long 0, .long 0, .ref qc, .ref qs])), (qs, .inl (cJ, 1024, .inr (.inl rs)))]) (wr := [(qc, .inl (cJ, 1024, .inr (.inl xs)))]) hP hD hS hA [1, 2] [0] rfl rfl (by decide) (by decide) (by decide) (fun hPc hDc => va_runV (As := [.long v, .int (nI t)]) (rest := []) ⟨hx, hb, hml, hown, hts⟩ (c_noteDif l D cJ cB cI cF qr n d 1 v v 0 0 qc qs _ rs v t _ (hI) (hn) (ht)) (cwV 2 hts (wsG_k tw_278 (wsG_k tw_280 (wsG_k tp_w3 (wsG_k tw_2 (wsG_c tw_281))))) rfl rfl rfl (by decide +kernel) ⟨Nat.le_of_ble_eq_true rfl, Nat.le_of_ble_eq_true rfl⟩) ⟨cf_blind, va_recv hK hPc (ci := 5) (q0 := 0) rfl rfl, cf_pre hPc hK hDc hWd⟩ rfl rfl hl.1 rfl (lv_room (Nat.le_of_ble_eq_true rfl)) dRo_add_50 ⟨Nat.le_of_ble_eq_true rfl, Nat.le_of_ble_eq_true rfl⟩) (fun u H locs hw hP hD hS => ?_)
      obtain ⟨d2_6, rs2_7⟩ := u
      obtain ⟨g1, -⟩ := hw
      have hP : va_P D vwCl [(qc, .inl (cJ, 1024, .inr (.inl xs))), (qr, .inr (5, [.int (nI n), .int (nI d2_6), .int (nI 1), .long v, .long v, .long 0, .long 0, .ref qc, .ref qs])), (qs, .inl (cJ, 1024, .inr (.inl rs2_7)))] H := hP
      have hD : va_D A [(qc, .inl (cJ, 1024, .inr (.inl xs))), (qr, .inr (5, [.int (nI n), .int (nI d2_6), .int (nI 1), .long v, .long v, .long 0, .long 0, .ref qc, .ref qs])), (qs, .inl (cJ, 1024, .inr (.inl rs2_7)))] := hD
      refine lv_aload_n hx hb dRo_add_53 rfl (lv_at hl 0 rfl) ?_
      refine va_get (D := D) (ci := 5) (v := .ref qc) (C := "ColumnForms$Row") (T := TRo) (N := 9) hx hb hts inRo hown hK hP 1 rfl rfl 7 (by decide) (hts _ tw_55) (fun _ h9 => h9) rfl dRo_add_54 ?_
      refine lv_aload_n hx hb dRo_add_57 rfl (lv_at hl 0 rfl) ?_
      refine va_get (D := D) (ci := 5) (v := .int (nI n)) (C := "ColumnForms$Row") (T := TRo) (N := 9) hx hb hts inRo hown hK hP 1 rfl rfl 0 (by decide) (hts _ tw_40) (fun _ h9 => h9) rfl dRo_add_58 ?_
      refine lv_lload_n hx hb dRo_add_61 rfl (lv_at hl 1 rfl) ?_
      refine va_last hx hb hK hP hD hS 0 0 rfl rfl (vp_in_nI (by omega) (by omega)) dRo_add_62 (fun H locs hP hD hS => ?_)
      rw [nI_clamp (by omega)] at hP hD
      have hP : va_P D vwCl [(qc, .inl (cJ, 1024, .inr (.inl (vp_updL xs n v)))), (qr, .inr (5, [.int (nI n), .int (nI d2_6), .int (nI 1), .long v, .long v, .long 0, .long 0, .ref qc, .ref qs])), (qs, .inl (cJ, 1024, .inr (.inl rs2_7)))] H := hP
      have hD : va_D A [(qc, .inl (cJ, 1024, .inr (.inl (vp_updL xs n v)))), (qr, .inr (5, [.int (nI n), .int (nI d2_6), .int (nI 1), .long v, .long v, .long 0, .long 0, .ref qc, .ref qs])), (qs, .inl (cJ, 1024, .inr (.inl rs2_7)))] := hD
      refine lv_aload_n hx hb dRo_add_63 rfl (lv_at hl 0 rfl) ?_
      refine lv_dup hx hb dRo_add_64 rfl ?_
      refine va_get (D := D) (ci := 5) (v := .int (nI n)) (C := "ColumnForms$Row") (T := TRo) (N := 9) hx hb hts inRo hown hK hP 1 rfl rfl 0 (by decide) (hts _ tw_40) (fun _ h9 => h9) rfl dRo_add_65 ?_
      refine lv_iconst (v := nI 1) hx hb dRo_add_68 (by decide) ?_
      refine lv_iadd hx hb dRo_add_69 ?_
      refine tp_i (show ((nI n) + (nI 1)) = (nI (n + 1)) from nI_add _ _) ?_
      refine va_put (D := D) (ci := 5) (v := .int (nI (n + 1))) (ty := .int) (C := "ColumnForms$Row") (T := TRo) (N := 9) hx hb hts inRo tyRo tyRo_ok nmRo hown hK hP hD hS 1 rfl rfl 0 (by decide) (hts _ tw_40) (fun _ h9 => h9) rfl (by decide +kernel) rfl rfl (Nat.le_of_ble_eq_true rfl) dRo_add_70 (fun H locs hP hD hS => ?_)
      have hP : va_P D vwCl [(qc, .inl (cJ, 1024, .inr (.inl (vp_updL xs n v)))), (qr, .inr (5, [.int (nI (n + 1)), .int (nI d2_6), .int (nI 1), .long v, .long v, .long 0, .long 0, .ref qc, .ref qs])), (qs, .inl (cJ, 1024, .inr (.inl rs2_7)))] H := hP
      have hD : va_D A [(qc, .inl (cJ, 1024, .inr (.inl (vp_updL xs n v)))), (qr, .inr (5, [.int (nI (n + 1)), .int (nI d2_6), .int (nI 1), .long v, .long v, .long 0, .long 0, .ref qc, .ref qs])), (qs, .inl (cJ, 1024, .inr (.inl rs2_7)))] := hD
      exact hret (d2_6, 1, v, v, 0, 0, rs2_7) _ _ _ _ _ _ ⟨rAll_1 hR hn c15 g1, trivial⟩ (hP.sub [1, 0, 2] rfl) (hD.sub [1, 0, 2] (by decide) rfl) hS (Nat.le_of_ble_eq_true rfl) (Nat.le_of_ble_eq_true rfl) dRo_add_73
  · have c7 : ¬ n < 1024 := fun h => c7 ((nI_ltI (by omega) (by omega)).mpr h)
    exact absurd c7 (by omega)
end
section
set_option maxHeartbeats 4000000 in
set_option maxRecDepth 100000 in
theorem c_blen (l : Launch) (D : va_G) (cJ cB cI cF : ClassId) (qb : Nat) (qo : Nat) (bc : Nat) (sz : Nat) (hb : bc ≤ 81936) : Met l yBy_length (Cond.code yBy_length cBy_length 1 (some .int) :: wsG) ({ frames := 1, cells := 0, slots := 0, locals := 20 }) (va_Pc [.ref qb] (cfPre D (cfT cJ cB cI cF) [(qb, .inr (0, [.ref qo, .int (nI bc)]))] sz)) (va_Qi (fun (r : Int32) (u : Unit) => r = nI ((bc + 7) / 8) ∧ True) (fun u t => cfPost D ((fun (u : Unit) => [(qb, .inr (0, [.ref qo, .int (nI bc)]))]) u) (va_A [(qb, .inr (0, [.ref qo, .int (nI bc)]))] sz) t) (va_A [(qb, .inr (0, [.ref qo, .int (nI bc)]))] sz)) 0 0 (va_A [(qb, .inr (0, [.ref qo, .int (nI bc)]))] sz) := by
  refine met_i (cc := cBy_length) (maxL := 1) (S := Unit) (D := D) (wO := fun (u : Unit) => [(qb, .inr (0, [.ref qo, .int (nI bc)]))]) (by decide) (Nat.le_of_ble_eq_true rfl) ?_
  intro p e s m below meth c hx hb hml hown hts hlocks hin hWd A hA hsz hP hK hD hS Q hret ls hl
  have hown : s.vm.findClass "ColumnForms$Bytes" = some m.cls := hown
  have hl : lv_has ls 1 [(0, .ref qb)] := hl
  have hP : va_P D vwCl [(qb, .inr (0, [.ref qo, .int (nI bc)]))] s.heap := hP
  refine lv_aload_n hx hb dBy_length_0 rfl (lv_at hl 0 rfl) ?_
  refine va_get (D := D) (ci := 0) (v := .int (nI bc)) (C := "ColumnForms$Bytes") (T := TBy) (N := 2) hx hb hts inBy hown hK hP 0 rfl rfl 1 (by decide) (hts _ tw_84) (fun _ h9 => h9) rfl dBy_length_1 ?_
  refine kc_i (wc := []) (wr := [(qb, .inr (0, [.ref qo, .int (nI bc)]))]) hP hD hS hA [] [0] rfl rfl (by decide) (by decide) (by decide) (fun hPc hDc => va_runSN (As := [.int (nI bc)]) (rest := []) ⟨hx, hb, hml, hown, hts⟩ (c_whole l D cJ cB cI cF bc _ (by omega)) (⟨va_cnB 1 hts (wsG_c tw_173) rfl rfl rfl (hWd.nest 12 rfl) (hts _ tw_1) (by decide +kernel) ⟨Nat.le_of_ble_eq_true rfl, Nat.le_of_ble_eq_true rfl⟩, hts _ tw_172, trivial⟩) ⟨cf_blind, cf_pre hPc hK hDc hWd⟩ rfl rfl hl.1 rfl (lv_room (Nat.le_of_ble_eq_true rfl)) dBy_length_4 ⟨Nat.le_of_ble_eq_true rfl, Nat.le_of_ble_eq_true rfl⟩) (fun r u H locs hw hP hD hS => ?_)
  obtain ⟨rfl, -⟩ := hw
  have hP : va_P D vwCl [(qb, .inr (0, [.ref qo, .int (nI bc)]))] H := hP
  have hD : va_D A [(qb, .inr (0, [.ref qo, .int (nI bc)]))] := hD
  exact hret (nI ((bc + 7) / 8)) () _ _ _ _ _ _ ⟨rfl, trivial⟩ (hP.sub [0] rfl) (hD.sub [0] (by decide) rfl) hS (Nat.le_of_ble_eq_true rfl) (Nat.le_of_ble_eq_true rfl) dBy_length_7

set_option maxHeartbeats 4000000 in
set_option maxRecDepth 100000 in
theorem c_octet (l : Launch) (D : va_G) (cJ cB cI cF : ClassId) (qb : Nat) (qo : Nat) (bc : Nat) (o : Nat → Int32) (i : Nat) (sz : Nat) (hi1 : i < 10242) : Met l yBy_octet (Cond.code yBy_octet cBy_octet 2 (some .int) :: wsG) ({ frames := 0, cells := 0, slots := 0, locals := 0 }) (va_Pc [.ref qb, .int (nI i)] (cfPre D (cfT cJ cB cI cF) [(qb, .inr (0, [.ref qo, .int (nI bc)])), (qo, .inl (cB, 10242, .inl o))] sz)) (va_Qi (fun (r : Int32) (u : Unit) => r = o i &&& 255 ∧ True) (fun u t => cfPost D ((fun (u : Unit) => [(qb, .inr (0, [.ref qo, .int (nI bc)])), (qo, .inl (cB, 10242, .inl o))]) u) (va_A [(qb, .inr (0, [.ref qo, .int (nI bc)])), (qo, .inl (cB, 10242, .inl o))] sz) t) (va_A [(qb, .inr (0, [.ref qo, .int (nI bc)])), (qo, .inl (cB, 10242, .inl o))] sz)) 0 0 (va_A [(qb, .inr (0, [.ref qo, .int (nI bc)])), (qo, .inl (cB, 10242, .inl o))] sz) := by
  refine met_i (cc := cBy_octet) (maxL := 2) (S := Unit) (D := D) (wO := fun (u : Unit) => [(qb, .inr (0, [.ref qo, .int (nI bc)])), (qo, .inl (cB, 10242, .inl o))]) (by decide) (Nat.le_of_ble_eq_true rfl) ?_
  intro p e s m below meth c hx hb hml hown hts hlocks hin hWd A hA hsz hP hK hD hS Q hret ls hl
  have hown : s.vm.findClass "ColumnForms$Bytes" = some m.cls := hown
  have hl : lv_has ls 2 [(0, .ref qb), (1, .int (nI i))] := hl
  have hP : va_P D vwCl [(qb, .inr (0, [.ref qo, .int (nI bc)])), (qo, .inl (cB, 10242, .inl o))] s.heap := hP
  refine lv_iload_n hx hb dBy_octet_0 rfl (lv_at hl 1 rfl) ?_
  refine lv_if_lt (tgt := 26) hx hb dBy_octet_1 (by decide) (fun c1 => ?_) (fun c1 => ?_)
  · have c1 : i < 0 := (nI_ltI (b := 0) (by omega) (by omega)).mp c1
    exact absurd c1 (by omega)
  · have c1 : ¬ i < 0 := fun h => c1 ((nI_ltI (b := 0) (by omega) (by omega)).mpr h)
    refine lv_iload_n hx hb dBy_octet_4 rfl (lv_at hl 1 rfl) ?_
    refine lv_aload_n hx hb dBy_octet_5 rfl (lv_at hl 0 rfl) ?_
    refine va_get (D := D) (ci := 0) (v := .ref qo) (C := "ColumnForms$Bytes") (T := TBy) (N := 2) hx hb hts inBy hown hK hP 0 rfl rfl 0 (by decide) (hts _ tw_83) (fun _ h9 => h9) rfl dBy_octet_6 ?_
    refine va_alen hx hb hK hP 1 1 rfl rfl (v := nI 10242) rfl dBy_octet_9 ?_
    refine lv_icmp_ge (tgt := 26) hx hb dBy_octet_10 (by decide) (fun c10 => ?_) (fun c10 => ?_)
    · have c10 : 10242 ≤ i := (nI_leI (by omega) (by omega)).mp c10
      exact absurd c10 (by omega)
    · have c10 : ¬ 10242 ≤ i := fun h => c10 ((nI_leI (by omega) (by omega)).mpr h)
      refine lv_aload_n hx hb dBy_octet_13 rfl (lv_at hl 0 rfl) ?_
      refine va_get (D := D) (ci := 0) (v := .ref qo) (C := "ColumnForms$Bytes") (T := TBy) (N := 2) hx hb hts inBy hown hK hP 0 rfl rfl 0 (by decide) (hts _ tw_83) (fun _ h9 => h9) rfl dBy_octet_14 ?_
      refine lv_iload_n hx hb dBy_octet_17 rfl (lv_at hl 1 rfl) ?_
      refine va_bald hx hb hK hP 1 1 rfl rfl (vp_in_nI (by omega) (by omega)) dBy_octet_18 ?_
      refine tp_i (show (o (nI i).toNatClampNeg) = (o i) from congrArg _ (nI_clamp (by omega))) ?_
      refine lv_sipush (v := nI 255) hx hb dBy_octet_19 (by decide) ?_
      refine lv_iand hx hb dBy_octet_22 ?_
      refine lv_goto (tgt := 27) hx hb dBy_octet_23 (by decide) ?_
      exact hret ((o i) &&& (nI 255)) () _ _ _ _ _ _ ⟨rfl, trivial⟩ (hP.sub [0, 1] rfl) (hD.sub [0, 1] (by decide) rfl) hS (Nat.le_of_ble_eq_true rfl) (Nat.le_of_ble_eq_true rfl) dBy_octet_27

set_option maxHeartbeats 4000000 in
set_option maxRecDepth 100000 in
theorem c_addLast (l : Launch) (D : va_G) (cJ cB cI cF : ClassId) (qb : Nat) (qo : Nat) (bc : Nat) (o : Nat → Int32) (B : Nat → Bool) (sf : Int32) (tk : Nat) (sz : Nat) (hc : oB o bc B) (h1 : 1 ≤ tk) (h8 : bc % 8 + tk ≤ 8) (hs : ∀ p, p < 8 → bt sf p = (decide (8 - bc % 8 - tk ≤ p) && (decide (p < 8 - bc % 8) && B (8 * (bc / 8) + 7 - p)))) (hbm : bc + tk ≤ 81936) : Met l yBy_addToLast (Cond.code yBy_addToLast cBy_addToLast 5 none :: wsG) ({ frames := 0, cells := 0, slots := 0, locals := 0 }) (va_Pc [.ref qb, .int sf, .int (nI tk)] (cfPre D (cfT cJ cB cI cF) [(qb, .inr (0, [.ref qo, .int (nI bc)])), (qo, .inl (cB, 10242, .inl o))] sz)) (va_Qv (fun (u : (Nat → Int32)) => (oB u (bc + tk) B) ∧ True) (fun u t => cfPost D ((fun (u : (Nat → Int32)) => [(qb, .inr (0, [.ref qo, .int (nI (bc + tk))])), (qo, .inl (cB, 10242, .inl u))]) u) (va_A [(qb, .inr (0, [.ref qo, .int (nI bc)])), (qo, .inl (cB, 10242, .inl o))] sz) t) (va_A [(qb, .inr (0, [.ref qo, .int (nI bc)])), (qo, .inl (cB, 10242, .inl o))] sz)) 0 0 (va_A [(qb, .inr (0, [.ref qo, .int (nI bc)])), (qo, .inl (cB, 10242, .inl o))] sz) := by
  refine met_v (cc := cBy_addToLast) (maxL := 5) (S := (Nat → Int32)) (D := D) (wO := fun (u : (Nat → Int32)) => [(qb, .inr (0, [.ref qo, .int (nI (bc + tk))])), (qo, .inl (cB, 10242, .inl u))]) (by decide) (Nat.le_of_ble_eq_true rfl) ?_
  intro p e s m below meth c hx hb hml hown hts hlocks hin hWd A hA hsz hP hK hD hS Q hret ls hl
  have hown : s.vm.findClass "ColumnForms$Bytes" = some m.cls := hown
  have hl : lv_has ls 5 [(0, .ref qb), (1, .int sf), (2, .int (nI tk))] := hl
  have hP : va_P D vwCl [(qb, .inr (0, [.ref qo, .int (nI bc)])), (qo, .inl (cB, 10242, .inl o))] s.heap := hP
  refine lv_aload_n hx hb dBy_addToLast_0 rfl (lv_at hl 0 rfl) ?_
  refine va_get (D := D) (ci := 0) (v := .int (nI bc)) (C := "ColumnForms$Bytes") (T := TBy) (N := 2) hx hb hts inBy hown hK hP 0 rfl rfl 1 (by decide) (hts _ tw_84) (fun _ h9 => h9) rfl dBy_addToLast_1 ?_
  refine lv_iconst (v := nI 3) hx hb dBy_addToLast_4 (by decide) ?_
  refine lv_ishr hx hb dBy_addToLast_5 ?_
  refine tp_i (show ((nI bc) >>> ((nI 3) &&& 31)) = (nI (bc / 8)) from pk_shrN (by omega) _ 3 (by decide)) ?_
  refine lv_istore_n (lv' := [(3, .int (nI (bc / 8))), (0, .ref qb), (1, .int sf), (2, .int (nI tk))]) hx hb dBy_addToLast_6 rfl hl (by decide) rfl (fun ls hl => ?_)
  refine lv_iload_n hx hb dBy_addToLast_7 rfl (lv_at hl 0 rfl) ?_
  refine lv_aload_n hx hb dBy_addToLast_8 rfl (lv_at hl 1 rfl) ?_
  refine va_get (D := D) (ci := 0) (v := .ref qo) (C := "ColumnForms$Bytes") (T := TBy) (N := 2) hx hb hts inBy hown hK hP 0 rfl rfl 0 (by decide) (hts _ tw_83) (fun _ h9 => h9) rfl dBy_addToLast_9 ?_
  refine va_alen hx hb hK hP 1 1 rfl rfl (v := nI 10242) rfl dBy_addToLast_12 ?_
  refine lv_icmp_lt (tgt := 17) hx hb dBy_addToLast_13 (by decide) (fun c13 => ?_) (fun c13 => ?_)
  · have c13 : (bc / 8) < 10242 := (nI_ltI (by omega) (by omega)).mp c13
    refine lv_aload_n hx hb dBy_addToLast_17 rfl (lv_at hl 1 rfl) ?_
    refine va_get (D := D) (ci := 0) (v := .int (nI bc)) (C := "ColumnForms$Bytes") (T := TBy) (N := 2) hx hb hts inBy hown hK hP 0 rfl rfl 1 (by decide) (hts _ tw_84) (fun _ h9 => h9) rfl dBy_addToLast_18 ?_
    refine lv_bipush (v := nI 7) hx hb dBy_addToLast_21 (by decide) ?_
    refine lv_iand hx hb dBy_addToLast_23 ?_
    refine tp_i (show ((nI bc) &&& (nI 7)) = (nI (bc % 8)) from pk_andN (by omega) 3 (by decide)) ?_
    refine lv_if_ne (tgt := 31) hx hb dBy_addToLast_24 (by decide) (fun c24 => ?_) (fun c24 => ?_)
    · have c24 : ¬ (bc % 8) = 0 := fun h => c24 ((nI_eq (b := 0) (by omega) (by omega)).mpr h)
      refine lv_aload_n hx hb dBy_addToLast_31 rfl (lv_at hl 1 rfl) ?_
      refine va_get (D := D) (ci := 0) (v := .ref qo) (C := "ColumnForms$Bytes") (T := TBy) (N := 2) hx hb hts inBy hown hK hP 0 rfl rfl 0 (by decide) (hts _ tw_83) (fun _ h9 => h9) rfl dBy_addToLast_32 ?_
      refine lv_iload_n hx hb dBy_addToLast_35 rfl (lv_at hl 0 rfl) ?_
      refine va_bald hx hb hK hP 1 1 rfl rfl (vp_in_nI (by omega) (by omega)) dBy_addToLast_36 ?_
      refine tp_i (show (o (nI (bc / 8)).toNatClampNeg) = (o (bc / 8)) from congrArg _ (nI_clamp (by omega))) ?_
      refine lv_istore (lv' := [(4, .int (o (bc / 8))), (3, .int (nI (bc / 8))), (0, .ref qb), (1, .int sf), (2, .int (nI tk))]) hx hb dBy_addToLast_37 hl (by decide) rfl (fun ls hl => ?_)
      refine lv_aload_n hx hb dBy_addToLast_39 rfl (lv_at hl 2 rfl) ?_
      refine va_get (D := D) (ci := 0) (v := .ref qo) (C := "ColumnForms$Bytes") (T := TBy) (N := 2) hx hb hts inBy hown hK hP 0 rfl rfl 0 (by decide) (hts _ tw_83) (fun _ h9 => h9) rfl dBy_addToLast_40 ?_
      refine lv_iload_n hx hb dBy_addToLast_43 rfl (lv_at hl 1 rfl) ?_
      refine lv_iload hx hb dBy_addToLast_44 (lv_at hl 0 rfl) ?_
      refine lv_iload_n hx hb dBy_addToLast_46 rfl (lv_at hl 3 rfl) ?_
      refine lv_ior hx hb dBy_addToLast_47 ?_
      refine lv_i2b hx hb dBy_addToLast_48 rfl ?_
      refine va_bast hx hb hK hP hD hS 1 1 rfl rfl (vp_in_nI (by omega) (by omega)) dBy_addToLast_49 (fun H locs hP hD hS => ?_)
      rw [nI_clamp (by omega)] at hP hD
      have hP : va_P D vwCl [(qb, .inr (0, [.ref qo, .int (nI bc)])), (qo, .inl (cB, 10242, .inl (upd o (bc / 8) (vp_nar .byte (((o (bc / 8)) ||| sf).toInt8.toInt32)))))] H := hP
      have hD : va_D A [(qb, .inr (0, [.ref qo, .int (nI bc)])), (qo, .inl (cB, 10242, .inl (upd o (bc / 8) (vp_nar .byte (((o (bc / 8)) ||| sf).toInt8.toInt32)))))] := hD
      refine lv_aload_n hx hb dBy_addToLast_50 rfl (lv_at hl 2 rfl) ?_
      refine lv_dup hx hb dBy_addToLast_51 rfl ?_
      refine va_get (D := D) (ci := 0) (v := .int (nI bc)) (C := "ColumnForms$Bytes") (T := TBy) (N := 2) hx hb hts inBy hown hK hP 0 rfl rfl 1 (by decide) (hts _ tw_84) (fun _ h9 => h9) rfl dBy_addToLast_52 ?_
      refine lv_iload_n hx hb dBy_addToLast_55 rfl (lv_at hl 4 rfl) ?_
      refine lv_iadd hx hb dBy_addToLast_56 ?_
      refine tp_i (show ((nI bc) + (nI tk)) = (nI (bc + tk)) from nI_add _ _) ?_
      refine va_put (D := D) (ci := 0) (v := .int (nI (bc + tk))) (ty := .int) (C := "ColumnForms$Bytes") (T := TBy) (N := 2) hx hb hts inBy tyBy tyBy_ok nmBy hown hK hP hD hS 0 rfl rfl 1 (by decide) (hts _ tw_84) (fun _ h9 => h9) rfl (by decide +kernel) rfl rfl (Nat.le_of_ble_eq_true rfl) dBy_addToLast_57 (fun H locs hP hD hS => ?_)
      have hP : va_P D vwCl [(qb, .inr (0, [.ref qo, .int (nI (bc + tk))])), (qo, .inl (cB, 10242, .inl (upd o (bc / 8) (vp_nar .byte (((o (bc / 8)) ||| sf).toInt8.toInt32)))))] H := hP
      have hD : va_D A [(qb, .inr (0, [.ref qo, .int (nI (bc + tk))])), (qo, .inl (cB, 10242, .inl (upd o (bc / 8) (vp_nar .byte (((o (bc / 8)) ||| sf).toInt8.toInt32)))))] := hD
      exact hret (upd o (bc / 8) (vp_nar .byte (((o (bc / 8)) ||| sf).toInt8.toInt32))) _ _ _ _ _ _ ⟨by have h9 := oB_add hc h1 h8 hs; rw [if_neg c24] at h9; exact h9, trivial⟩ (hP.sub [0, 1] rfl) (hD.sub [0, 1] (by decide) rfl) hS (Nat.le_of_ble_eq_true rfl) (Nat.le_of_ble_eq_true rfl) dBy_addToLast_60
    · have c24 : (bc % 8) = 0 := (nI_eq (b := 0) (by omega) (by omega)).mp c24
      refine lv_iconst (v := nI 0) hx hb dBy_addToLast_27 (by decide) ?_
      refine lv_goto (tgt := 37) hx hb dBy_addToLast_28 (by decide) ?_
      refine lv_istore (lv' := [(4, .int (nI 0)), (3, .int (nI (bc / 8))), (0, .ref qb), (1, .int sf), (2, .int (nI tk))]) hx hb dBy_addToLast_37 hl (by decide) rfl (fun ls hl => ?_)
      refine lv_aload_n hx hb dBy_addToLast_39 rfl (lv_at hl 2 rfl) ?_
      refine va_get (D := D) (ci := 0) (v := .ref qo) (C := "ColumnForms$Bytes") (T := TBy) (N := 2) hx hb hts inBy hown hK hP 0 rfl rfl 0 (by decide) (hts _ tw_83) (fun _ h9 => h9) rfl dBy_addToLast_40 ?_
      refine lv_iload_n hx hb dBy_addToLast_43 rfl (lv_at hl 1 rfl) ?_
      refine lv_iload hx hb dBy_addToLast_44 (lv_at hl 0 rfl) ?_
      refine lv_iload_n hx hb dBy_addToLast_46 rfl (lv_at hl 3 rfl) ?_
      refine lv_ior hx hb dBy_addToLast_47 ?_
      refine lv_i2b hx hb dBy_addToLast_48 rfl ?_
      refine va_bast hx hb hK hP hD hS 1 1 rfl rfl (vp_in_nI (by omega) (by omega)) dBy_addToLast_49 (fun H locs hP hD hS => ?_)
      rw [nI_clamp (by omega)] at hP hD
      have hP : va_P D vwCl [(qb, .inr (0, [.ref qo, .int (nI bc)])), (qo, .inl (cB, 10242, .inl (upd o (bc / 8) (vp_nar .byte (((nI 0) ||| sf).toInt8.toInt32)))))] H := hP
      have hD : va_D A [(qb, .inr (0, [.ref qo, .int (nI bc)])), (qo, .inl (cB, 10242, .inl (upd o (bc / 8) (vp_nar .byte (((nI 0) ||| sf).toInt8.toInt32)))))] := hD
      refine lv_aload_n hx hb dBy_addToLast_50 rfl (lv_at hl 2 rfl) ?_
      refine lv_dup hx hb dBy_addToLast_51 rfl ?_
      refine va_get (D := D) (ci := 0) (v := .int (nI bc)) (C := "ColumnForms$Bytes") (T := TBy) (N := 2) hx hb hts inBy hown hK hP 0 rfl rfl 1 (by decide) (hts _ tw_84) (fun _ h9 => h9) rfl dBy_addToLast_52 ?_
      refine lv_iload_n hx hb dBy_addToLast_55 rfl (lv_at hl 4 rfl) ?_
      refine lv_iadd hx hb dBy_addToLast_56 ?_
      refine tp_i (show ((nI bc) + (nI tk)) = (nI (bc + tk)) from nI_add _ _) ?_
      refine va_put (D := D) (ci := 0) (v := .int (nI (bc + tk))) (ty := .int) (C := "ColumnForms$Bytes") (T := TBy) (N := 2) hx hb hts inBy tyBy tyBy_ok nmBy hown hK hP hD hS 0 rfl rfl 1 (by decide) (hts _ tw_84) (fun _ h9 => h9) rfl (by decide +kernel) rfl rfl (Nat.le_of_ble_eq_true rfl) dBy_addToLast_57 (fun H locs hP hD hS => ?_)
      have hP : va_P D vwCl [(qb, .inr (0, [.ref qo, .int (nI (bc + tk))])), (qo, .inl (cB, 10242, .inl (upd o (bc / 8) (vp_nar .byte (((nI 0) ||| sf).toInt8.toInt32)))))] H := hP
      have hD : va_D A [(qb, .inr (0, [.ref qo, .int (nI (bc + tk))])), (qo, .inl (cB, 10242, .inl (upd o (bc / 8) (vp_nar .byte (((nI 0) ||| sf).toInt8.toInt32)))))] := hD
      exact hret (upd o (bc / 8) (vp_nar .byte (((nI 0) ||| sf).toInt8.toInt32))) _ _ _ _ _ _ ⟨by have h9 := oB_add hc h1 h8 hs; rw [if_pos c24] at h9; exact h9, trivial⟩ (hP.sub [0, 1] rfl) (hD.sub [0, 1] (by decide) rfl) hS (Nat.le_of_ble_eq_true rfl) (Nat.le_of_ble_eq_true rfl) dBy_addToLast_60
  · have c13 : ¬ (bc / 8) < 10242 := fun h => c13 ((nI_ltI (by omega) (by omega)).mpr h)
    exact absurd c13 (by omega)

set_option maxHeartbeats 4000000 in
set_option maxRecDepth 100000 in
theorem c_append (l : Launch) (D : va_G) (cJ cB cI cF : ClassId) (qb : Nat) (qo : Nat) (bc : Nat) (o : Nat → Int32) (B : Nat → Bool) (v : Int64) (w : Nat) (sz : Nat) (hc : oB o bc B) (hw : w ≤ 64) (hbm : bc + w ≤ 81936) : Met l yBy_append (Cond.code yBy_append cBy_append 9 none :: wsG) ({ frames := 1, cells := 0, slots := 0, locals := 24 }) (va_Pc [.ref qb, .long v, .int (nI w)] (cfPre D (cfT cJ cB cI cF) [(qb, .inr (0, [.ref qo, .int (nI bc)])), (qo, .inl (cB, 10242, .inl o))] sz)) (va_Qv (fun (u : (Nat → Int32)) => (oB u (bc + w) (bA B bc v w)) ∧ True) (fun u t => cfPost D ((fun (u : (Nat → Int32)) => [(qb, .inr (0, [.ref qo, .int (nI (bc + w))])), (qo, .inl (cB, 10242, .inl u))]) u) (va_A [(qb, .inr (0, [.ref qo, .int (nI bc)])), (qo, .inl (cB, 10242, .inl o))] sz) t) (va_A [(qb, .inr (0, [.ref qo, .int (nI bc)])), (qo, .inl (cB, 10242, .inl o))] sz)) 0 0 (va_A [(qb, .inr (0, [.ref qo, .int (nI bc)])), (qo, .inl (cB, 10242, .inl o))] sz) := by
  refine met_v (cc := cBy_append) (maxL := 9) (S := (Nat → Int32)) (D := D) (wO := fun (u : (Nat → Int32)) => [(qb, .inr (0, [.ref qo, .int (nI (bc + w))])), (qo, .inl (cB, 10242, .inl u))]) (by decide) (Nat.le_of_ble_eq_true rfl) ?_
  intro p e s m below meth c hx hb hml hown hts hlocks hin hWd A hA hsz hP hK hD hS Q hret ls hl
  have hown : s.vm.findClass "ColumnForms$Bytes" = some m.cls := hown
  have hl : lv_has ls 9 [(0, .ref qb), (1, .long v), (3, .int (nI w))] := hl
  have hP : va_P D vwCl [(qb, .inr (0, [.ref qo, .int (nI bc)])), (qo, .inl (cB, 10242, .inl o))] s.heap := hP
  refine lv_iload_n hx hb dBy_append_0 rfl (lv_at hl 2 rfl) ?_
  refine lv_istore (lv' := [(4, .int (nI w)), (0, .ref qb), (1, .long v), (3, .int (nI w))]) hx hb dBy_append_1 hl (by decide) rfl (fun ls hl => ?_)
  refine lv_iconst (v := nI 0) hx hb dBy_append_3 (by decide) ?_
  refine lv_istore (lv' := [(5, .int (nI 0)), (4, .int (nI w)), (0, .ref qb), (1, .long v), (3, .int (nI w))]) hx hb dBy_append_4 hl (by decide) rfl (fun ls hl => ?_)
  have lp : ∀ (k_lp : Nat) (tn : Nat) (lf : Nat) (b1 : Nat) (o1 : Nat → Int32), (b1 + lf = bc + w) → (lf ≤ w) → (tn ≤ 9) → ((tn = 0 ∧ b1 = bc) ∨ lf = 0 ∨ b1 = 8 * (bc / 8) + 8 * tn) → (oB o1 b1 (bA B bc v w)) → (9 - tn < k_lp) → ∀ (H : Heap) (locs : List Loc) (ls : Array Slot), va_P D vwCl [(qb, .inr (0, [.ref qo, .int (nI b1)])), (qo, .inl (cB, 10242, .inl o1))] H → va_D A [(qb, .inr (0, [.ref qo, .int (nI b1)])), (qo, .inl (cB, 10242, .inl o1))] → va_S A s.heap H locs → lv_has ls 9 [(0, .ref qb), (1, .long v), (3, .int (nI w)), (4, .int (nI lf)), (5, .int (nI tn))] → W p l e ({ frames := 1, cells := 0, slots := 0, locals := 24 }) s m ([.ref qb, .long v, .int (nI w)].toArray) below meth c H locs (0) (0) Q (F0 m 6 ls []) := by
    intro k_lp
    induction k_lp with
    | zero => intro tn lf b1 o1 g1 g2 g3 g4 g5 hfu; exact absurd hfu (by omega)
    | succ k_lp ih_lp =>
      intro tn lf b1 o1 g1 g2 g3 g4 g5 hfu H locs ls hP hD hS hl
      refine lv_iload hx hb dBy_append_6 (lv_at hl 4 rfl) ?_
      refine lv_bipush (v := nI 9) hx hb dBy_append_8 (by decide) ?_
      refine lv_icmp_ge (tgt := 80) hx hb dBy_append_10 (by decide) (fun c10 => ?_) (fun c10 => ?_)
      · have c10 : 9 ≤ tn := (nI_leI (by omega) (by omega)).mp c10
        have hlf : lf = 0 := by omega
        subst hlf
        have hb1 : b1 = bc + w := by omega
        subst hb1
        exact hret (o1) _ _ _ _ _ _ ⟨g5, trivial⟩ (hP.sub [0, 1] rfl) (hD.sub [0, 1] (by decide) rfl) hS (Nat.le_of_ble_eq_true rfl) (Nat.le_of_ble_eq_true rfl) dBy_append_80
      · have c10 : ¬ 9 ≤ tn := fun h => c10 ((nI_leI (by omega) (by omega)).mpr h)
        refine lv_iload hx hb dBy_append_13 (lv_at hl 3 rfl) ?_
        refine lv_if_le (tgt := 80) hx hb dBy_append_15 (by decide) (fun c15 => ?_) (fun c15 => ?_)
        · have c15 : lf ≤ 0 := (nI_leI (b := 0) (by omega) (by omega)).mp c15
          have hlf : lf = 0 := by omega
          subst hlf
          have hb1 : b1 = bc + w := by omega
          subst hb1
          exact hret (o1) _ _ _ _ _ _ ⟨g5, trivial⟩ (hP.sub [0, 1] rfl) (hD.sub [0, 1] (by decide) rfl) hS (Nat.le_of_ble_eq_true rfl) (Nat.le_of_ble_eq_true rfl) dBy_append_80
        · have c15 : ¬ lf ≤ 0 := fun h => c15 ((nI_leI (b := 0) (by omega) (by omega)).mpr h)
          refine lv_bipush (v := nI 8) hx hb dBy_append_18 (by decide) ?_
          refine lv_aload_n hx hb dBy_append_20 rfl (lv_at hl 0 rfl) ?_
          refine va_get (D := D) (ci := 0) (v := .int (nI b1)) (C := "ColumnForms$Bytes") (T := TBy) (N := 2) hx hb hts inBy hown hK hP 0 rfl rfl 1 (by decide) (hts _ tw_84) (fun _ h9 => h9) rfl dBy_append_21 ?_
          refine lv_bipush (v := nI 7) hx hb dBy_append_24 (by decide) ?_
          refine lv_iand hx hb dBy_append_26 ?_
          refine tp_i (show ((nI b1) &&& (nI 7)) = (nI (b1 % 8)) from pk_andN (by omega) 3 (by decide)) ?_
          refine lv_isub hx hb dBy_append_27 ?_
          refine tp_i (show ((nI 8) - (nI (b1 % 8))) = (nI (8 - (b1 % 8))) from pk_sub (by omega)) ?_
          refine lv_istore (lv' := [(6, .int (nI (8 - (b1 % 8)))), (0, .ref qb), (1, .long v), (3, .int (nI w)), (4, .int (nI lf)), (5, .int (nI tn))]) hx hb dBy_append_28 hl (by decide) rfl (fun ls hl => ?_)
          refine lv_iload hx hb dBy_append_30 (lv_at hl 0 rfl) ?_
          refine lv_iload hx hb dBy_append_32 (lv_at hl 4 rfl) ?_
          obtain ⟨tk, htk⟩ : ∃ z, z = min (8 - (b1 % 8)) lf := ⟨_, rfl⟩
          refine va_mmin hx hb (hml.trans hl.1.symm) hown (hts _ tw_398) (hts _ tw_399) (hts _ tw_15) (hts _ tw_400) (Nat.le_of_ble_eq_true rfl) (Nat.le_of_ble_eq_true rfl) (Nat.le_of_ble_eq_true rfl) (Nat.le_of_ble_eq_true rfl) dBy_append_34 ?_
          refine tp_i (show (if (nI lf) < (nI (8 - (b1 % 8))) then (nI lf) else (nI (8 - (b1 % 8)))) = (nI tk) from by rw [htk]; exact nI_mn (by omega) (by omega)) ?_
          refine lv_istore (lv' := [(7, .int (nI tk)), (6, .int (nI (8 - (b1 % 8)))), (0, .ref qb), (1, .long v), (3, .int (nI w)), (4, .int (nI lf)), (5, .int (nI tn))]) hx hb dBy_append_37 hl (by decide) rfl (fun ls hl => ?_)
          refine lv_iload hx hb dBy_append_39 (lv_at hl 5 rfl) ?_
          refine lv_iload hx hb dBy_append_41 (lv_at hl 0 rfl) ?_
          refine lv_isub hx hb dBy_append_43 ?_
          refine tp_i (show ((nI lf) - (nI tk)) = (nI (lf - tk)) from pk_sub (by omega)) ?_
          refine lv_istore (lv' := [(4, .int (nI (lf - tk))), (7, .int (nI tk)), (6, .int (nI (8 - (b1 % 8)))), (0, .ref qb), (1, .long v), (3, .int (nI w)), (5, .int (nI tn))]) hx hb dBy_append_44 hl (by decide) rfl (fun ls hl => ?_)
          refine lv_lload_n hx hb dBy_append_46 rfl (lv_at hl 4 rfl) ?_
          refine lv_iload hx hb dBy_append_47 (lv_at hl 0 rfl) ?_
          refine lv_lushr hx hb dBy_append_49 rfl ?_
          refine lv_l2i hx hb dBy_append_50 rfl ?_
          refine lv_iconst (v := nI 1) hx hb dBy_append_51 (by decide) ?_
          refine lv_iload hx hb dBy_append_52 (lv_at hl 1 rfl) ?_
          refine lv_ishl hx hb dBy_append_54 ?_
          refine lv_iconst (v := nI 1) hx hb dBy_append_55 (by decide) ?_
          refine lv_isub hx hb dBy_append_56 ?_
          refine lv_iand hx hb dBy_append_57 ?_
          refine lv_istore (lv' := [(8, .int ((((v.toUInt64 >>> ((nI (lf - tk)).toInt64.toUInt64 &&& Int64.toUInt64 63)).toInt64).toInt32) &&& (((nI 1) <<< ((nI tk) &&& 31)) - (nI 1)))), (4, .int (nI (lf - tk))), (7, .int (nI tk)), (6, .int (nI (8 - (b1 % 8)))), (0, .ref qb), (1, .long v), (3, .int (nI w)), (5, .int (nI tn))]) hx hb dBy_append_58 hl (by decide) rfl (fun ls hl => ?_)
          refine lv_aload_n hx hb dBy_append_60 rfl (lv_at hl 4 rfl) ?_
          refine lv_iload hx hb dBy_append_61 (lv_at hl 0 rfl) ?_
          refine lv_iload hx hb dBy_append_63 (lv_at hl 3 rfl) ?_
          refine lv_iload hx hb dBy_append_65 (lv_at hl 2 rfl) ?_
          refine lv_isub hx hb dBy_append_67 ?_
          refine tp_i (show ((nI (8 - (b1 % 8))) - (nI tk)) = (nI ((8 - (b1 % 8)) - tk)) from pk_sub (by omega)) ?_
          refine lv_ishl hx hb dBy_append_68 ?_
          refine lv_iload hx hb dBy_append_69 (lv_at hl 2 rfl) ?_
          refine kc_v (wc := [(qb, .inr (0, [.ref qo, .int (nI b1)])), (qo, .inl (cB, 10242, .inl o1))]) (wr := []) hP hD hS hA [0, 1] [] rfl rfl (by decide) (by decide) (by decide) (fun hPc hDc => va_runV (As := [.int (((((v.toUInt64 >>> ((nI (lf - tk)).toInt64.toUInt64 &&& Int64.toUInt64 63)).toInt64).toInt32) &&& (((nI 1) <<< ((nI tk) &&& 31)) - (nI 1))) <<< ((nI ((8 - (b1 % 8)) - tk)) &&& 31)), .int (nI tk)]) (rest := []) ⟨hx, hb, hml, hown, hts⟩ (c_addLast l D cJ cB cI cF qb qo b1 o1 (bA B bc v w) (((((v.toUInt64 >>> ((nI (lf - tk)).toInt64.toUInt64 &&& Int64.toUInt64 63)).toInt64).toInt32) &&& (((nI 1) <<< ((nI tk) &&& 31)) - (nI 1))) <<< ((nI ((8 - (b1 % 8)) - tk)) &&& 31)) tk _ (g5) (by omega) (by omega) (ap_piece hw g1 g2 (by omega) (by omega) (by omega)) (by omega)) (cwV 2 hts (wsG_k tw_401 (wsG_k tw_403 (wsG_k tp_w7 (wsG_k tw_3 (wsG_c tw_404))))) rfl rfl rfl (by decide +kernel) ⟨Nat.le_of_ble_eq_true rfl, Nat.le_of_ble_eq_true rfl⟩) ⟨cf_blind, va_recv hK hPc (ci := 0) (q0 := 0) rfl rfl, cf_pre hPc hK hDc hWd⟩ rfl rfl hl.1 rfl (lv_room (Nat.le_of_ble_eq_true rfl)) dBy_append_71 ⟨Nat.le_of_ble_eq_true rfl, Nat.le_of_ble_eq_true rfl⟩) (fun u H locs hw hP hD hS => ?_)
          obtain ⟨o2, rfl⟩ : ∃ z, z = u := ⟨u, rfl⟩
          obtain ⟨f9, -⟩ := hw
          have f9 : oB o2 (b1 + tk) (bA B bc v w) := f9
          have hP : va_P D vwCl [(qb, .inr (0, [.ref qo, .int (nI (b1 + tk))])), (qo, .inl (cB, 10242, .inl o2))] H := hP
          have hD : va_D A [(qb, .inr (0, [.ref qo, .int (nI (b1 + tk))])), (qo, .inl (cB, 10242, .inl o2))] := hD
          refine lv_iinc (v := nI (tn + 1)) (lv' := [(5, .int (nI (tn + 1))), (8, .int ((((v.toUInt64 >>> ((nI (lf - tk)).toInt64.toUInt64 &&& Int64.toUInt64 63)).toInt64).toInt32) &&& (((nI 1) <<< ((nI tk) &&& 31)) - (nI 1)))), (4, .int (nI (lf - tk))), (7, .int (nI tk)), (6, .int (nI (8 - (b1 % 8)))), (0, .ref qb), (1, .long v), (3, .int (nI w))]) hx hb dBy_append_74 hl (k := 7) rfl (by rw [show (Int32.ofInt 1) = nI 1 from by decide]; exact nI_add _ _) (by decide) rfl (fun ls hl => ?_)
          refine lv_goto (tgt := 6) hx hb dBy_append_77 (by decide) ?_
          exact ih_lp (tn + 1) (lf - tk) (b1 + tk) o2 (by omega) (by omega) (by omega) (by omega) (f9) (by omega) _ _ _ (hP.sub [0, 1] rfl) (hD.sub [0, 1] (by decide) rfl) hS (lv_sub hl [5, 6, 7, 2, 0] rfl)
  exact lp (9 - 0 + 1) 0 w bc o (rfl) (Nat.le_refl w) (by omega) (Or.inl ⟨rfl, rfl⟩) (oB_congr hc (fun i hi => bA_lo hi)) (by omega) _ _ _ (hP.sub [0, 1] rfl) (hD.sub [0, 1] (by decide) rfl) hS (lv_sub hl [2, 3, 4, 1, 0] rfl)

set_option maxHeartbeats 4000000 in
set_option maxRecDepth 100000 in
theorem c_bitsAt (l : Launch) (D : va_G) (cJ cB cI cF : ClassId) (qb : Nat) (qo : Nat) (bc : Nat) (o : Nat → Int32) (B : Nat → Bool) (a : Nat) (w : Nat) (vv : Int64) (sz : Nat) (hc : oB o bc B) (hbm : bc ≤ 81936) (hw : w ≤ 64) (ha : a + w ≤ bc) (hf : fld B a w vv) (hsm : ∀ t, w ≤ t → bL vv t = false) : Met l yBy_bitsAt (Cond.code yBy_bitsAt cBy_bitsAt 11 (some .long) :: wsG) ({ frames := 1, cells := 0, slots := 0, locals := 21 }) (va_Pc [.ref qb, .int (nI a), .int (nI w)] (cfPre D (cfT cJ cB cI cF) [(qb, .inr (0, [.ref qo, .int (nI bc)])), (qo, .inl (cB, 10242, .inl o))] sz)) (va_Ql (fun (r : Int64) (u : Unit) => r = vv ∧ True) (fun u t => cfPost D ((fun (u : Unit) => [(qb, .inr (0, [.ref qo, .int (nI bc)])), (qo, .inl (cB, 10242, .inl o))]) u) (va_A [(qb, .inr (0, [.ref qo, .int (nI bc)])), (qo, .inl (cB, 10242, .inl o))] sz) t) (va_A [(qb, .inr (0, [.ref qo, .int (nI bc)])), (qo, .inl (cB, 10242, .inl o))] sz)) 0 0 (va_A [(qb, .inr (0, [.ref qo, .int (nI bc)])), (qo, .inl (cB, 10242, .inl o))] sz) := by
  refine met_l (cc := cBy_bitsAt) (maxL := 11) (S := Unit) (D := D) (wO := fun (u : Unit) => [(qb, .inr (0, [.ref qo, .int (nI bc)])), (qo, .inl (cB, 10242, .inl o))]) (by decide) (Nat.le_of_ble_eq_true rfl) ?_
  intro p e s m below meth c hx hb hml hown hts hlocks hin hWd A hA hsz hP hK hD hS Q hret ls hl
  have hown : s.vm.findClass "ColumnForms$Bytes" = some m.cls := hown
  have hl : lv_has ls 11 [(0, .ref qb), (1, .int (nI a)), (2, .int (nI w))] := hl
  have hP : va_P D vwCl [(qb, .inr (0, [.ref qo, .int (nI bc)])), (qo, .inl (cB, 10242, .inl o))] s.heap := hP
  refine lv_lconst (v := 0) hx hb dBy_bitsAt_0 (by decide) ?_
  refine lv_lstore_n (lv' := [(3, .long 0), (0, .ref qb), (1, .int (nI a)), (2, .int (nI w))]) hx hb dBy_bitsAt_1 rfl hl (by decide) rfl (fun ls hl => ?_)
  refine lv_iload_n hx hb dBy_bitsAt_2 rfl (lv_at hl 2 rfl) ?_
  refine lv_istore (lv' := [(5, .int (nI a)), (3, .long 0), (0, .ref qb), (1, .int (nI a)), (2, .int (nI w))]) hx hb dBy_bitsAt_3 hl (by decide) rfl (fun ls hl => ?_)
  refine lv_iload_n hx hb dBy_bitsAt_5 rfl (lv_at hl 4 rfl) ?_
  refine lv_istore (lv' := [(6, .int (nI w)), (5, .int (nI a)), (3, .long 0), (0, .ref qb), (1, .int (nI a)), (2, .int (nI w))]) hx hb dBy_bitsAt_6 hl (by decide) rfl (fun ls hl => ?_)
  refine lv_iconst (v := nI 0) hx hb dBy_bitsAt_8 (by decide) ?_
  refine lv_istore (lv' := [(7, .int (nI 0)), (6, .int (nI w)), (5, .int (nI a)), (3, .long 0), (0, .ref qb), (1, .int (nI a)), (2, .int (nI w))]) hx hb dBy_bitsAt_9 hl (by decide) rfl (fun ls hl => ?_)
  have lp : ∀ (k_lp : Nat) (tn : Nat) (lf : Nat) (b1 : Nat) (vl : Int64), (b1 + lf = a + w) → (lf ≤ w) → (tn ≤ 9) → ((tn = 0 ∧ b1 = a) ∨ lf = 0 ∨ b1 = 8 * (a / 8) + 8 * tn) → (rdV B a (w - lf) vl) → (9 - tn < k_lp) → ∀ (H : Heap) (locs : List Loc) (ls : Array Slot), va_P D vwCl [(qb, .inr (0, [.ref qo, .int (nI bc)])), (qo, .inl (cB, 10242, .inl o))] H → va_D A [(qb, .inr (0, [.ref qo, .int (nI bc)])), (qo, .inl (cB, 10242, .inl o))] → va_S A s.heap H locs → lv_has ls 11 [(0, .ref qb), (1, .int (nI a)), (2, .int (nI w)), (3, .long vl), (5, .int (nI b1)), (6, .int (nI lf)), (7, .int (nI tn))] → W p l e ({ frames := 1, cells := 0, slots := 0, locals := 21 }) s m ([.ref qb, .int (nI a), .int (nI w)].toArray) below meth c H locs (0) (0) Q (F0 m 11 ls []) := by
    intro k_lp
    induction k_lp with
    | zero => intro tn lf b1 vl g1 g2 g3 g4 g5 hfu; exact absurd hfu (by omega)
    | succ k_lp ih_lp =>
      intro tn lf b1 vl g1 g2 g3 g4 g5 hfu H locs ls hP hD hS hl
      refine lv_iload hx hb dBy_bitsAt_11 (lv_at hl 6 rfl) ?_
      refine lv_bipush (v := nI 9) hx hb dBy_bitsAt_13 (by decide) ?_
      refine lv_icmp_ge (tgt := 94) hx hb dBy_bitsAt_15 (by decide) (fun c15 => ?_) (fun c15 => ?_)
      · have c15 : 9 ≤ tn := (nI_leI (by omega) (by omega)).mp c15
        refine lv_lload_n hx hb dBy_bitsAt_94 rfl (lv_at hl 3 rfl) ?_
        exact hret vl () _ _ _ _ _ _ ⟨rdV_end g5 (by omega) hf hsm, trivial⟩ (hP.sub [0, 1] rfl) (hD.sub [0, 1] (by decide) rfl) hS (Nat.le_of_ble_eq_true rfl) (Nat.le_of_ble_eq_true rfl) dBy_bitsAt_95
      · have c15 : ¬ 9 ≤ tn := fun h => c15 ((nI_leI (by omega) (by omega)).mpr h)
        refine lv_iload hx hb dBy_bitsAt_18 (lv_at hl 5 rfl) ?_
        refine lv_if_le (tgt := 94) hx hb dBy_bitsAt_20 (by decide) (fun c20 => ?_) (fun c20 => ?_)
        · have c20 : lf ≤ 0 := (nI_leI (b := 0) (by omega) (by omega)).mp c20
          refine lv_lload_n hx hb dBy_bitsAt_94 rfl (lv_at hl 3 rfl) ?_
          exact hret vl () _ _ _ _ _ _ ⟨rdV_end g5 (by omega) hf hsm, trivial⟩ (hP.sub [0, 1] rfl) (hD.sub [0, 1] (by decide) rfl) hS (Nat.le_of_ble_eq_true rfl) (Nat.le_of_ble_eq_true rfl) dBy_bitsAt_95
        · have c20 : ¬ lf ≤ 0 := fun h => c20 ((nI_leI (b := 0) (by omega) (by omega)).mpr h)
          refine lv_bipush (v := nI 8) hx hb dBy_bitsAt_23 (by decide) ?_
          refine lv_iload hx hb dBy_bitsAt_25 (lv_at hl 4 rfl) ?_
          refine lv_bipush (v := nI 7) hx hb dBy_bitsAt_27 (by decide) ?_
          refine lv_iand hx hb dBy_bitsAt_29 ?_
          refine tp_i (show ((nI b1) &&& (nI 7)) = (nI (b1 % 8)) from pk_andN (by omega) 3 (by decide)) ?_
          refine lv_isub hx hb dBy_bitsAt_30 ?_
          refine tp_i (show ((nI 8) - (nI (b1 % 8))) = (nI (8 - (b1 % 8))) from pk_sub (by omega)) ?_
          refine lv_istore (lv' := [(8, .int (nI (8 - (b1 % 8)))), (0, .ref qb), (1, .int (nI a)), (2, .int (nI w)), (3, .long vl), (5, .int (nI b1)), (6, .int (nI lf)), (7, .int (nI tn))]) hx hb dBy_bitsAt_31 hl (by decide) rfl (fun ls hl => ?_)
          refine lv_iload hx hb dBy_bitsAt_33 (lv_at hl 0 rfl) ?_
          refine lv_iload hx hb dBy_bitsAt_35 (lv_at hl 6 rfl) ?_
          obtain ⟨tk, htk⟩ : ∃ z, z = min (8 - (b1 % 8)) lf := ⟨_, rfl⟩
          refine va_mmin hx hb (hml.trans hl.1.symm) hown (hts _ tw_398) (hts _ tw_399) (hts _ tw_15) (hts _ tw_400) (Nat.le_of_ble_eq_true rfl) (Nat.le_of_ble_eq_true rfl) (Nat.le_of_ble_eq_true rfl) (Nat.le_of_ble_eq_true rfl) dBy_bitsAt_37 ?_
          refine tp_i (show (if (nI lf) < (nI (8 - (b1 % 8))) then (nI lf) else (nI (8 - (b1 % 8)))) = (nI tk) from by rw [htk]; exact nI_mn (by omega) (by omega)) ?_
          refine lv_istore (lv' := [(9, .int (nI tk)), (8, .int (nI (8 - (b1 % 8)))), (0, .ref qb), (1, .int (nI a)), (2, .int (nI w)), (3, .long vl), (5, .int (nI b1)), (6, .int (nI lf)), (7, .int (nI tn))]) hx hb dBy_bitsAt_40 hl (by decide) rfl (fun ls hl => ?_)
          refine lv_aload_n hx hb dBy_bitsAt_42 rfl (lv_at hl 2 rfl) ?_
          refine lv_iload hx hb dBy_bitsAt_43 (lv_at hl 6 rfl) ?_
          refine lv_iconst (v := nI 3) hx hb dBy_bitsAt_45 (by decide) ?_
          refine lv_ishr hx hb dBy_bitsAt_46 ?_
          refine tp_i (show ((nI b1) >>> ((nI 3) &&& 31)) = (nI (b1 / 8)) from pk_shrN (by omega) _ 3 (by decide)) ?_
          refine kc_i (wc := [(qb, .inr (0, [.ref qo, .int (nI bc)])), (qo, .inl (cB, 10242, .inl o))]) (wr := []) hP hD hS hA [0, 1] [] rfl rfl (by decide) (by decide) (by decide) (fun hPc hDc => va_runV (As := [.int (nI (b1 / 8))]) (rest := []) ⟨hx, hb, hml, hown, hts⟩ (c_octet l D cJ cB cI cF qb qo bc o (b1 / 8) _ (by omega)) (cwV 1 hts (wsG_k tw_468 (wsG_k tw_444 (wsG_k tw_445 (wsG_k tw_3 (wsG_c tw_446))))) rfl rfl rfl (by decide +kernel) ⟨Nat.le_of_ble_eq_true rfl, Nat.le_of_ble_eq_true rfl⟩) ⟨cf_blind, va_recv hK hPc (ci := 0) (q0 := 0) rfl rfl, cf_pre hPc hK hDc hWd⟩ rfl rfl hl.1 rfl (lv_room (Nat.le_of_ble_eq_true rfl)) dBy_bitsAt_47 ⟨Nat.le_of_ble_eq_true rfl, Nat.le_of_ble_eq_true rfl⟩) (fun r u H locs hw hP hD hS => ?_)
          obtain ⟨rfl, -⟩ := hw
          have hP : va_P D vwCl [(qb, .inr (0, [.ref qo, .int (nI bc)])), (qo, .inl (cB, 10242, .inl o))] H := hP
          have hD : va_D A [(qb, .inr (0, [.ref qo, .int (nI bc)])), (qo, .inl (cB, 10242, .inl o))] := hD
          refine lv_iload hx hb dBy_bitsAt_50 (lv_at hl 1 rfl) ?_
          refine lv_iload hx hb dBy_bitsAt_52 (lv_at hl 0 rfl) ?_
          refine lv_isub hx hb dBy_bitsAt_54 ?_
          refine tp_i (show ((nI (8 - (b1 % 8))) - (nI tk)) = (nI ((8 - (b1 % 8)) - tk)) from pk_sub (by omega)) ?_
          refine lv_iushr hx hb dBy_bitsAt_55 rfl ?_
          refine lv_iconst (v := nI 1) hx hb dBy_bitsAt_56 (by decide) ?_
          refine lv_iload hx hb dBy_bitsAt_57 (lv_at hl 0 rfl) ?_
          refine lv_ishl hx hb dBy_bitsAt_59 ?_
          refine lv_iconst (v := nI 1) hx hb dBy_bitsAt_60 (by decide) ?_
          refine lv_isub hx hb dBy_bitsAt_61 ?_
          refine lv_iand hx hb dBy_bitsAt_62 ?_
          refine lv_istore (lv' := [(10, .int ((((o (b1 / 8) &&& 255).toUInt32 >>> ((nI ((8 - (b1 % 8)) - tk)).toUInt32 &&& Int32.toUInt32 31)).toInt32) &&& (((nI 1) <<< ((nI tk) &&& 31)) - (nI 1)))), (9, .int (nI tk)), (8, .int (nI (8 - (b1 % 8)))), (0, .ref qb), (1, .int (nI a)), (2, .int (nI w)), (3, .long vl), (5, .int (nI b1)), (6, .int (nI lf)), (7, .int (nI tn))]) hx hb dBy_bitsAt_63 hl (by decide) rfl (fun ls hl => ?_)
          refine lv_lload_n hx hb dBy_bitsAt_65 rfl (lv_at hl 6 rfl) ?_
          refine lv_iload hx hb dBy_bitsAt_66 (lv_at hl 1 rfl) ?_
          refine lv_lshl hx hb dBy_bitsAt_68 rfl ?_
          refine lv_iload hx hb dBy_bitsAt_69 (lv_at hl 0 rfl) ?_
          refine lv_i2l hx hb dBy_bitsAt_71 rfl ?_
          refine lv_lor hx hb dBy_bitsAt_72 ?_
          refine lv_lstore_n (lv' := [(3, .long ((vl <<< ((nI tk).toInt64 &&& 63)) ||| (((((o (b1 / 8) &&& 255).toUInt32 >>> ((nI ((8 - (b1 % 8)) - tk)).toUInt32 &&& Int32.toUInt32 31)).toInt32) &&& (((nI 1) <<< ((nI tk) &&& 31)) - (nI 1))).toInt64))), (10, .int ((((o (b1 / 8) &&& 255).toUInt32 >>> ((nI ((8 - (b1 % 8)) - tk)).toUInt32 &&& Int32.toUInt32 31)).toInt32) &&& (((nI 1) <<< ((nI tk) &&& 31)) - (nI 1)))), (9, .int (nI tk)), (8, .int (nI (8 - (b1 % 8)))), (0, .ref qb), (1, .int (nI a)), (2, .int (nI w)), (5, .int (nI b1)), (6, .int (nI lf)), (7, .int (nI tn))]) hx hb dBy_bitsAt_73 rfl hl (by decide) rfl (fun ls hl => ?_)
          refine lv_iload hx hb dBy_bitsAt_74 (lv_at hl 7 rfl) ?_
          refine lv_iload hx hb dBy_bitsAt_76 (lv_at hl 2 rfl) ?_
          refine lv_iadd hx hb dBy_bitsAt_78 ?_
          refine tp_i (show ((nI b1) + (nI tk)) = (nI (b1 + tk)) from nI_add _ _) ?_
          refine lv_istore (lv' := [(5, .int (nI (b1 + tk))), (3, .long ((vl <<< ((nI tk).toInt64 &&& 63)) ||| (((((o (b1 / 8) &&& 255).toUInt32 >>> ((nI ((8 - (b1 % 8)) - tk)).toUInt32 &&& Int32.toUInt32 31)).toInt32) &&& (((nI 1) <<< ((nI tk) &&& 31)) - (nI 1))).toInt64))), (10, .int ((((o (b1 / 8) &&& 255).toUInt32 >>> ((nI ((8 - (b1 % 8)) - tk)).toUInt32 &&& Int32.toUInt32 31)).toInt32) &&& (((nI 1) <<< ((nI tk) &&& 31)) - (nI 1)))), (9, .int (nI tk)), (8, .int (nI (8 - (b1 % 8)))), (0, .ref qb), (1, .int (nI a)), (2, .int (nI w)), (6, .int (nI lf)), (7, .int (nI tn))]) hx hb dBy_bitsAt_79 hl (by decide) rfl (fun ls hl => ?_)
          refine lv_iload hx hb dBy_bitsAt_81 (lv_at hl 8 rfl) ?_
          refine lv_iload hx hb dBy_bitsAt_83 (lv_at hl 3 rfl) ?_
          refine lv_isub hx hb dBy_bitsAt_85 ?_
          refine tp_i (show ((nI lf) - (nI tk)) = (nI (lf - tk)) from pk_sub (by omega)) ?_
          refine lv_istore (lv' := [(6, .int (nI (lf - tk))), (5, .int (nI (b1 + tk))), (3, .long ((vl <<< ((nI tk).toInt64 &&& 63)) ||| (((((o (b1 / 8) &&& 255).toUInt32 >>> ((nI ((8 - (b1 % 8)) - tk)).toUInt32 &&& Int32.toUInt32 31)).toInt32) &&& (((nI 1) <<< ((nI tk) &&& 31)) - (nI 1))).toInt64))), (10, .int ((((o (b1 / 8) &&& 255).toUInt32 >>> ((nI ((8 - (b1 % 8)) - tk)).toUInt32 &&& Int32.toUInt32 31)).toInt32) &&& (((nI 1) <<< ((nI tk) &&& 31)) - (nI 1)))), (9, .int (nI tk)), (8, .int (nI (8 - (b1 % 8)))), (0, .ref qb), (1, .int (nI a)), (2, .int (nI w)), (7, .int (nI tn))]) hx hb dBy_bitsAt_86 hl (by decide) rfl (fun ls hl => ?_)
          refine lv_iinc (v := nI (tn + 1)) (lv' := [(7, .int (nI (tn + 1))), (6, .int (nI (lf - tk))), (5, .int (nI (b1 + tk))), (3, .long ((vl <<< ((nI tk).toInt64 &&& 63)) ||| (((((o (b1 / 8) &&& 255).toUInt32 >>> ((nI ((8 - (b1 % 8)) - tk)).toUInt32 &&& Int32.toUInt32 31)).toInt32) &&& (((nI 1) <<< ((nI tk) &&& 31)) - (nI 1))).toInt64))), (10, .int ((((o (b1 / 8) &&& 255).toUInt32 >>> ((nI ((8 - (b1 % 8)) - tk)).toUInt32 &&& Int32.toUInt32 31)).toInt32) &&& (((nI 1) <<< ((nI tk) &&& 31)) - (nI 1)))), (9, .int (nI tk)), (8, .int (nI (8 - (b1 % 8)))), (0, .ref qb), (1, .int (nI a)), (2, .int (nI w))]) hx hb dBy_bitsAt_88 hl (k := 9) rfl (by rw [show (Int32.ofInt 1) = nI 1 from by decide]; exact nI_add _ _) (by decide) rfl (fun ls hl => ?_)
          refine lv_goto (tgt := 11) hx hb dBy_bitsAt_91 (by decide) ?_
          exact ih_lp (tn + 1) (lf - tk) (b1 + tk) ((vl <<< ((nI tk).toInt64 &&& 63)) ||| (((((o (b1 / 8) &&& 255).toUInt32 >>> ((nI ((8 - (b1 % 8)) - tk)).toUInt32 &&& Int32.toUInt32 31)).toInt32) &&& (((nI 1) <<< ((nI tk) &&& 31)) - (nI 1))).toInt64)) (by omega) (by omega) (by omega) (by omega) (by rw [show w - (lf - tk) = w - lf + tk by omega]; exact rd_piece hc (by omega) (by omega) (by omega) (by omega) (by omega) g5) (by omega) _ _ _ (hP.sub [0, 1] rfl) (hD.sub [0, 1] (by decide) rfl) hS (lv_sub hl [7, 8, 9, 3, 2, 1, 0] rfl)
  exact lp (9 - 0 + 1) 0 w a 0 (rfl) (Nat.le_refl w) (by omega) (Or.inl ⟨rfl, rfl⟩) (by rw [Nat.sub_self]; exact rdV_0 B a) (by omega) _ _ _ (hP.sub [0, 1] rfl) (hD.sub [0, 1] (by decide) rfl) hS (lv_sub hl [4, 5, 6, 3, 2, 1, 0] rfl)
end
section
set_option maxHeartbeats 4000000 in
set_option maxRecDepth 100000 in
theorem c_fits (l : Launch) (D : va_G) (cJ cB cI cF : ClassId) (qq : Nat) (ht_ : Int32) (tt : Int64) (kd : Nat) (low : Int64) (high : Int64) (v : Int64) (sz : Nat) (hk : kd < 5) : Met l yQu_fits (Cond.code yQu_fits cQu_fits 3 (some .boolean) :: wsG) ({ frames := 0, cells := 0, slots := 0, locals := 0 }) (va_Pc [.ref qq, .long v] (cfPre D (cfT cJ cB cI cF) [(qq, .inr (4, [.int ht_, .long tt, .int (nI kd), .long low, .long high]))] sz)) (va_Qi (fun (r : Int32) (u : Unit) => r = qB (qF kd low high v) ∧ True) (fun u t => cfPost D ((fun (u : Unit) => [(qq, .inr (4, [.int ht_, .long tt, .int (nI kd), .long low, .long high]))]) u) (va_A [(qq, .inr (4, [.int ht_, .long tt, .int (nI kd), .long low, .long high]))] sz) t) (va_A [(qq, .inr (4, [.int ht_, .long tt, .int (nI kd), .long low, .long high]))] sz)) 0 0 (va_A [(qq, .inr (4, [.int ht_, .long tt, .int (nI kd), .long low, .long high]))] sz) := by
  refine met_z (cc := cQu_fits) (maxL := 3) (S := Unit) (D := D) (wO := fun (u : Unit) => [(qq, .inr (4, [.int ht_, .long tt, .int (nI kd), .long low, .long high]))]) (by decide) (Nat.le_of_ble_eq_true rfl) ?_
  intro p e s m below meth c hx hb hml hown hts hlocks hin hWd A hA hsz hP hK hD hS Q hret ls hl
  have hown : s.vm.findClass "ColumnForms$Question" = some m.cls := hown
  have hl : lv_has ls 3 [(0, .ref qq), (1, .long v)] := hl
  have hP : va_P D vwCl [(qq, .inr (4, [.int ht_, .long tt, .int (nI kd), .long low, .long high]))] s.heap := hP
  refine lv_aload_n hx hb dQu_fits_0 rfl (lv_at hl 0 rfl) ?_
  refine va_get (D := D) (ci := 4) (v := .int (nI kd)) (C := "ColumnForms$Question") (T := TQu) (N := 5) hx hb hts inQu hown hK hP 0 rfl rfl 2 (by decide) (hts _ tw_523) (fun _ h9 => h9) rfl dQu_fits_1 ?_
  rcases (show kd = 0 ∨ kd = 1 ∨ kd = 2 ∨ kd = 3 ∨ kd = 4 by omega) with rfl | rfl | rfl | rfl | rfl
  · refine lv_tableIn (x := nI 0) (tgt := 40) hx hb dQu_fits_4 (by decide) (by decide) rfl (by decide) ?_
    refine lv_lload_n hx hb dQu_fits_40 rfl (lv_at hl 1 rfl) ?_
    refine lv_aload_n hx hb dQu_fits_41 rfl (lv_at hl 0 rfl) ?_
    refine va_get (D := D) (ci := 4) (v := .long low) (C := "ColumnForms$Question") (T := TQu) (N := 5) hx hb hts inQu hown hK hP 0 rfl rfl 3 (by decide) (hts _ tw_524) (fun _ h9 => h9) rfl dQu_fits_42 ?_
    refine W.lcmp hx hb dQu_fits_45 ?_
    refine lv_if_ne (tgt := 53) hx hb dQu_fits_46 (by decide) (fun c46 => ?_) (fun c46 => ?_)
    · have c46 : ¬ v = low := fun h => c46 ((lg_cmp_eq _ _).mpr h)
      refine lv_iconst (v := nI 0) hx hb dQu_fits_53 (by decide) ?_
      exact hret (nI 0) () _ _ _ _ _ _ ⟨by show _ = qB (decide _); rw [decide_eq_false c46]; rfl, trivial⟩ (hP.sub [0] rfl) (hD.sub [0] (by decide) rfl) hS (Nat.le_of_ble_eq_true rfl) (Nat.le_of_ble_eq_true rfl) (by rfl) dQu_fits_54
    · have c46 : v = low := (lg_cmp_eq _ _).mp c46
      refine lv_iconst (v := nI 1) hx hb dQu_fits_49 (by decide) ?_
      refine lv_goto (tgt := 54) hx hb dQu_fits_50 (by decide) ?_
      exact hret (nI 1) () _ _ _ _ _ _ ⟨by show _ = qB (decide _); rw [decide_eq_true c46]; rfl, trivial⟩ (hP.sub [0] rfl) (hD.sub [0] (by decide) rfl) hS (Nat.le_of_ble_eq_true rfl) (Nat.le_of_ble_eq_true rfl) (by rfl) dQu_fits_54
  · refine lv_tableIn (x := nI 1) (tgt := 55) hx hb dQu_fits_4 (by decide) (by decide) rfl (by decide) ?_
    refine lv_lload_n hx hb dQu_fits_55 rfl (lv_at hl 1 rfl) ?_
    refine lv_aload_n hx hb dQu_fits_56 rfl (lv_at hl 0 rfl) ?_
    refine va_get (D := D) (ci := 4) (v := .long low) (C := "ColumnForms$Question") (T := TQu) (N := 5) hx hb hts inQu hown hK hP 0 rfl rfl 3 (by decide) (hts _ tw_524) (fun _ h9 => h9) rfl dQu_fits_57 ?_
    refine W.lcmp hx hb dQu_fits_60 ?_
    refine lv_if_ge (tgt := 68) hx hb dQu_fits_61 (by decide) (fun c61 => ?_) (fun c61 => ?_)
    · have c61 : low ≤ v := (lg_cmp_ge _ _).mp c61
      refine lv_iconst (v := nI 0) hx hb dQu_fits_68 (by decide) ?_
      exact hret (nI 0) () _ _ _ _ _ _ ⟨by show _ = qB (decide _); rw [decide_eq_false (fun h => (Int64.not_lt.mpr c61) h)]; rfl, trivial⟩ (hP.sub [0] rfl) (hD.sub [0] (by decide) rfl) hS (Nat.le_of_ble_eq_true rfl) (Nat.le_of_ble_eq_true rfl) (by rfl) dQu_fits_69
    · have c61 : ¬ low ≤ v := fun h => c61 ((lg_cmp_ge _ _).mpr h)
      refine lv_iconst (v := nI 1) hx hb dQu_fits_64 (by decide) ?_
      refine lv_goto (tgt := 69) hx hb dQu_fits_65 (by decide) ?_
      exact hret (nI 1) () _ _ _ _ _ _ ⟨by show _ = qB (decide _); rw [decide_eq_true (Int64.not_le.mp c61)]; rfl, trivial⟩ (hP.sub [0] rfl) (hD.sub [0] (by decide) rfl) hS (Nat.le_of_ble_eq_true rfl) (Nat.le_of_ble_eq_true rfl) (by rfl) dQu_fits_69
  · refine lv_tableIn (x := nI 2) (tgt := 70) hx hb dQu_fits_4 (by decide) (by decide) rfl (by decide) ?_
    refine lv_lload_n hx hb dQu_fits_70 rfl (lv_at hl 1 rfl) ?_
    refine lv_aload_n hx hb dQu_fits_71 rfl (lv_at hl 0 rfl) ?_
    refine va_get (D := D) (ci := 4) (v := .long low) (C := "ColumnForms$Question") (T := TQu) (N := 5) hx hb hts inQu hown hK hP 0 rfl rfl 3 (by decide) (hts _ tw_524) (fun _ h9 => h9) rfl dQu_fits_72 ?_
    refine W.lcmp hx hb dQu_fits_75 ?_
    refine lv_if_le (tgt := 83) hx hb dQu_fits_76 (by decide) (fun c76 => ?_) (fun c76 => ?_)
    · have c76 : v ≤ low := (lg_cmp_le _ _).mp c76
      refine lv_iconst (v := nI 0) hx hb dQu_fits_83 (by decide) ?_
      exact hret (nI 0) () _ _ _ _ _ _ ⟨by show _ = qB (decide _); rw [decide_eq_false (fun h => (Int64.not_lt.mpr c76) h)]; rfl, trivial⟩ (hP.sub [0] rfl) (hD.sub [0] (by decide) rfl) hS (Nat.le_of_ble_eq_true rfl) (Nat.le_of_ble_eq_true rfl) (by rfl) dQu_fits_84
    · have c76 : ¬ v ≤ low := fun h => c76 ((lg_cmp_le _ _).mpr h)
      refine lv_iconst (v := nI 1) hx hb dQu_fits_79 (by decide) ?_
      refine lv_goto (tgt := 84) hx hb dQu_fits_80 (by decide) ?_
      exact hret (nI 1) () _ _ _ _ _ _ ⟨by show _ = qB (decide _); rw [decide_eq_true (Int64.not_le.mp c76)]; rfl, trivial⟩ (hP.sub [0] rfl) (hD.sub [0] (by decide) rfl) hS (Nat.le_of_ble_eq_true rfl) (Nat.le_of_ble_eq_true rfl) (by rfl) dQu_fits_84
  · refine lv_tableIn (x := nI 3) (tgt := 85) hx hb dQu_fits_4 (by decide) (by decide) rfl (by decide) ?_
    refine lv_lload_n hx hb dQu_fits_85 rfl (lv_at hl 1 rfl) ?_
    refine lv_aload_n hx hb dQu_fits_86 rfl (lv_at hl 0 rfl) ?_
    refine va_get (D := D) (ci := 4) (v := .long low) (C := "ColumnForms$Question") (T := TQu) (N := 5) hx hb hts inQu hown hK hP 0 rfl rfl 3 (by decide) (hts _ tw_524) (fun _ h9 => h9) rfl dQu_fits_87 ?_
    refine lv_land hx hb dQu_fits_90 ?_
    refine lv_aload_n hx hb dQu_fits_91 rfl (lv_at hl 0 rfl) ?_
    refine va_get (D := D) (ci := 4) (v := .long low) (C := "ColumnForms$Question") (T := TQu) (N := 5) hx hb hts inQu hown hK hP 0 rfl rfl 3 (by decide) (hts _ tw_524) (fun _ h9 => h9) rfl dQu_fits_92 ?_
    refine W.lcmp hx hb dQu_fits_95 ?_
    refine lv_if_ne (tgt := 103) hx hb dQu_fits_96 (by decide) (fun c96 => ?_) (fun c96 => ?_)
    · have c96 : ¬ (v &&& low) = low := fun h => c96 ((lg_cmp_eq _ _).mpr h)
      refine lv_iconst (v := nI 0) hx hb dQu_fits_103 (by decide) ?_
      exact hret (nI 0) () _ _ _ _ _ _ ⟨by show _ = qB (decide _); rw [decide_eq_false c96]; rfl, trivial⟩ (hP.sub [0] rfl) (hD.sub [0] (by decide) rfl) hS (Nat.le_of_ble_eq_true rfl) (Nat.le_of_ble_eq_true rfl) (by rfl) dQu_fits_104
    · have c96 : (v &&& low) = low := (lg_cmp_eq _ _).mp c96
      refine lv_iconst (v := nI 1) hx hb dQu_fits_99 (by decide) ?_
      refine lv_goto (tgt := 104) hx hb dQu_fits_100 (by decide) ?_
      exact hret (nI 1) () _ _ _ _ _ _ ⟨by show _ = qB (decide _); rw [decide_eq_true c96]; rfl, trivial⟩ (hP.sub [0] rfl) (hD.sub [0] (by decide) rfl) hS (Nat.le_of_ble_eq_true rfl) (Nat.le_of_ble_eq_true rfl) (by rfl) dQu_fits_104
  · refine lv_tableIn (x := nI 4) (tgt := 105) hx hb dQu_fits_4 (by decide) (by decide) rfl (by decide) ?_
    refine lv_lload_n hx hb dQu_fits_105 rfl (lv_at hl 1 rfl) ?_
    refine lv_aload_n hx hb dQu_fits_106 rfl (lv_at hl 0 rfl) ?_
    refine va_get (D := D) (ci := 4) (v := .long low) (C := "ColumnForms$Question") (T := TQu) (N := 5) hx hb hts inQu hown hK hP 0 rfl rfl 3 (by decide) (hts _ tw_524) (fun _ h9 => h9) rfl dQu_fits_107 ?_
    refine W.lcmp hx hb dQu_fits_110 ?_
    refine lv_if_lt (tgt := 127) hx hb dQu_fits_111 (by decide) (fun c111 => ?_) (fun c111 => ?_)
    · have c111 : v < low := (lg_cmp_lt _ _).mp c111
      refine lv_iconst (v := nI 0) hx hb dQu_fits_127 (by decide) ?_
      exact hret (nI 0) () _ _ _ _ _ _ ⟨by show _ = qB (decide _ && decide _); rw [decide_eq_false (Int64.not_le.mpr c111)]; rfl, trivial⟩ (hP.sub [0] rfl) (hD.sub [0] (by decide) rfl) hS (Nat.le_of_ble_eq_true rfl) (Nat.le_of_ble_eq_true rfl) (by rfl) dQu_fits_128
    · have c111 : ¬ v < low := fun h => c111 ((lg_cmp_lt _ _).mpr h)
      refine lv_lload_n hx hb dQu_fits_114 rfl (lv_at hl 1 rfl) ?_
      refine lv_aload_n hx hb dQu_fits_115 rfl (lv_at hl 0 rfl) ?_
      refine va_get (D := D) (ci := 4) (v := .long high) (C := "ColumnForms$Question") (T := TQu) (N := 5) hx hb hts inQu hown hK hP 0 rfl rfl 4 (by decide) (hts _ tw_525) (fun _ h9 => h9) rfl dQu_fits_116 ?_
      refine W.lcmp hx hb dQu_fits_119 ?_
      refine lv_if_gt (tgt := 127) hx hb dQu_fits_120 (by decide) (fun c120 => ?_) (fun c120 => ?_)
      · have c120 : high < v := (lg_cmp_gt _ _).mp c120
        refine lv_iconst (v := nI 0) hx hb dQu_fits_127 (by decide) ?_
        exact hret (nI 0) () _ _ _ _ _ _ ⟨by show _ = qB (decide _ && decide _); rw [decide_eq_false (Int64.not_le.mpr c120), Bool.and_false]; rfl, trivial⟩ (hP.sub [0] rfl) (hD.sub [0] (by decide) rfl) hS (Nat.le_of_ble_eq_true rfl) (Nat.le_of_ble_eq_true rfl) (by rfl) dQu_fits_128
      · have c120 : ¬ high < v := fun h => c120 ((lg_cmp_gt _ _).mpr h)
        refine lv_iconst (v := nI 1) hx hb dQu_fits_123 (by decide) ?_
        refine lv_goto (tgt := 128) hx hb dQu_fits_124 (by decide) ?_
        exact hret (nI 1) () _ _ _ _ _ _ ⟨by show _ = qB (decide _ && decide _); rw [decide_eq_true (Int64.not_lt.mp c111), decide_eq_true (Int64.not_lt.mp c120)]; rfl, trivial⟩ (hP.sub [0] rfl) (hD.sub [0] (by decide) rfl) hS (Nat.le_of_ble_eq_true rfl) (Nat.le_of_ble_eq_true rfl) (by rfl) dQu_fits_128

set_option maxHeartbeats 4000000 in
set_option maxRecDepth 100000 in
theorem c_ask (l : Launch) (D : va_G) (cJ cB cI cF : ClassId) (qq : Nat) (ht_ : Int32) (tt : Int64) (kd : Nat) (low : Int64) (high : Int64) (v : Int64) (tm : Int32) (sz : Nat) (hk : kd < 5) : Met l yQu_ask (Cond.code yQu_ask cQu_ask 4 none :: wsG) ({ frames := 1, cells := 0, slots := 0, locals := 22 }) (va_Pc [.ref qq, .long v, .int tm] (cfPre D (cfT cJ cB cI cF) [(qq, .inr (4, [.int ht_, .long tt, .int (nI kd), .long low, .long high]))] sz)) (va_Qv (fun (u : Int32 × Int64) => (u.1 = ht_ + (if qF kd low high v then tm else 0)) ∧ (u.2 = tt + (if qF kd low high v then v * tm.toInt64 else 0)) ∧ True) (fun u t => cfPost D ((fun (u : Int32 × Int64) => [(qq, .inr (4, [.int u.1, .long u.2, .int (nI kd), .long low, .long high]))]) u) (va_A [(qq, .inr (4, [.int ht_, .long tt, .int (nI kd), .long low, .long high]))] sz) t) (va_A [(qq, .inr (4, [.int ht_, .long tt, .int (nI kd), .long low, .long high]))] sz)) 0 0 (va_A [(qq, .inr (4, [.int ht_, .long tt, .int (nI kd), .long low, .long high]))] sz) := by
  refine met_v (cc := cQu_ask) (maxL := 4) (S := Int32 × Int64) (D := D) (wO := fun (u : Int32 × Int64) => [(qq, .inr (4, [.int u.1, .long u.2, .int (nI kd), .long low, .long high]))]) (by decide) (Nat.le_of_ble_eq_true rfl) ?_
  intro p e s m below meth c hx hb hml hown hts hlocks hin hWd A hA hsz hP hK hD hS Q hret ls hl
  have hown : s.vm.findClass "ColumnForms$Question" = some m.cls := hown
  have hl : lv_has ls 4 [(0, .ref qq), (1, .long v), (3, .int tm)] := hl
  have hP : va_P D vwCl [(qq, .inr (4, [.int ht_, .long tt, .int (nI kd), .long low, .long high]))] s.heap := hP
  refine lv_aload_n hx hb dQu_ask_0 rfl (lv_at hl 0 rfl) ?_
  refine lv_lload_n hx hb dQu_ask_1 rfl (lv_at hl 1 rfl) ?_
  refine kc_i (wc := [(qq, .inr (4, [.int ht_, .long tt, .int (nI kd), .long low, .long high]))]) (wr := []) hP hD hS hA [0] [] rfl rfl (by decide) (by decide) (by decide) (fun hPc hDc => va_runV (As := [.long v]) (rest := []) ⟨hx, hb, hml, hown, hts⟩ (c_fits l D cJ cB cI cF qq ht_ tt kd low high v _ (hk)) (cwV 1 hts (wsG_k tw_555 (wsG_k tw_557 (wsG_k tp_w10 (wsG_k tw_20 (wsG_c tw_558))))) rfl rfl rfl (by decide +kernel) ⟨Nat.le_of_ble_eq_true rfl, Nat.le_of_ble_eq_true rfl⟩) ⟨cf_blind, va_recv hK hPc (ci := 4) (q0 := 0) rfl rfl, cf_pre hPc hK hDc hWd⟩ rfl rfl hl.1 rfl (lv_room (Nat.le_of_ble_eq_true rfl)) dQu_ask_2 ⟨Nat.le_of_ble_eq_true rfl, Nat.le_of_ble_eq_true rfl⟩) (fun r u H locs hw hP hD hS => ?_)
  obtain ⟨rfl, -⟩ := hw
  have hP : va_P D vwCl [(qq, .inr (4, [.int ht_, .long tt, .int (nI kd), .long low, .long high]))] H := hP
  have hD : va_D A [(qq, .inr (4, [.int ht_, .long tt, .int (nI kd), .long low, .long high]))] := hD
  refine lv_if_eq (tgt := 31) hx hb dQu_ask_5 (by decide) (fun c5 => ?_) (fun c5 => ?_)
  · exact hret (ht_, tt) _ _ _ _ _ _ ⟨by rw [qB_f c5]; exact (Int32.add_zero _).symm, by rw [qB_f c5]; exact (Int64.add_zero _).symm, trivial⟩ (hP.sub [0] rfl) (hD.sub [0] (by decide) rfl) hS (Nat.le_of_ble_eq_true rfl) (Nat.le_of_ble_eq_true rfl) dQu_ask_31
  · refine lv_aload_n hx hb dQu_ask_8 rfl (lv_at hl 0 rfl) ?_
    refine lv_dup hx hb dQu_ask_9 rfl ?_
    refine va_get (D := D) (ci := 4) (v := .int ht_) (C := "ColumnForms$Question") (T := TQu) (N := 5) hx hb hts inQu hown hK hP 0 rfl rfl 0 (by decide) (hts _ tw_519) (fun _ h9 => h9) rfl dQu_ask_10 ?_
    refine lv_iload_n hx hb dQu_ask_13 rfl (lv_at hl 2 rfl) ?_
    refine lv_iadd hx hb dQu_ask_14 ?_
    refine va_put (D := D) (ci := 4) (v := .int (ht_ + tm)) (ty := .int) (C := "ColumnForms$Question") (T := TQu) (N := 5) hx hb hts inQu tyQu tyQu_ok nmQu hown hK hP hD hS 0 rfl rfl 0 (by decide) (hts _ tw_519) (fun _ h9 => h9) rfl (by decide +kernel) rfl rfl (Nat.le_of_ble_eq_true rfl) dQu_ask_15 (fun H locs hP hD hS => ?_)
    have hP : va_P D vwCl [(qq, .inr (4, [.int (ht_ + tm), .long tt, .int (nI kd), .long low, .long high]))] H := hP
    have hD : va_D A [(qq, .inr (4, [.int (ht_ + tm), .long tt, .int (nI kd), .long low, .long high]))] := hD
    refine lv_aload_n hx hb dQu_ask_18 rfl (lv_at hl 0 rfl) ?_
    refine lv_dup hx hb dQu_ask_19 rfl ?_
    refine va_get (D := D) (ci := 4) (v := .long tt) (C := "ColumnForms$Question") (T := TQu) (N := 5) hx hb hts inQu hown hK hP 0 rfl rfl 1 (by decide) (hts _ tw_521) (fun _ h9 => h9) rfl dQu_ask_20 ?_
    refine lv_lload_n hx hb dQu_ask_23 rfl (lv_at hl 1 rfl) ?_
    refine lv_iload_n hx hb dQu_ask_24 rfl (lv_at hl 2 rfl) ?_
    refine lv_i2l hx hb dQu_ask_25 rfl ?_
    refine lv_lmul hx hb dQu_ask_26 ?_
    refine lv_ladd hx hb dQu_ask_27 ?_
    refine va_put (D := D) (ci := 4) (v := .long (tt + (v * tm.toInt64))) (ty := .long) (C := "ColumnForms$Question") (T := TQu) (N := 5) hx hb hts inQu tyQu tyQu_ok nmQu hown hK hP hD hS 0 rfl rfl 1 (by decide) (hts _ tw_521) (fun _ h9 => h9) rfl (by decide +kernel) rfl rfl (Nat.le_of_ble_eq_true rfl) dQu_ask_28 (fun H locs hP hD hS => ?_)
    have hP : va_P D vwCl [(qq, .inr (4, [.int (ht_ + tm), .long (tt + (v * tm.toInt64)), .int (nI kd), .long low, .long high]))] H := hP
    have hD : va_D A [(qq, .inr (4, [.int (ht_ + tm), .long (tt + (v * tm.toInt64)), .int (nI kd), .long low, .long high]))] := hD
    exact hret (ht_ + tm, tt + (v * tm.toInt64)) _ _ _ _ _ _ ⟨by rw [qB_t c5]; rfl, by rw [qB_t c5]; rfl, trivial⟩ (hP.sub [0] rfl) (hD.sub [0] (by decide) rfl) hS (Nat.le_of_ble_eq_true rfl) (Nat.le_of_ble_eq_true rfl) dQu_ask_31
end
section
/-! what a column of each form holds -/
theorem fld_add {B : Nat → Bool} {bc w i : Nat} {v : Int64} {a wd : Nat → Nat} {vl : Nat → Int64} (h : ∀ j, j < i → fld B (a j) (wd j) (vl j)) (hlo : ∀ j, j < i → a j + wd j ≤ bc) (ha : a i = bc) (hv : vl i = v) (hw : wd i = w) : ∀ j, j < i + 1 → fld (bA B bc v w) (a j) (wd j) (vl j) := fun j hj => by
  by_cases q : j = i
  · subst q; rw [ha, hv, hw]; exact bA_fld B bc v w
  · exact fld_keep (h j (by omega)) (hlo j (by omega))
theorem fld_all {B : Nat → Bool} {bc w i : Nat} {v : Int64} {a wd : Nat → Nat} {vl : Nat → Int64} (h : ∀ j, j < i → fld B (a j) (wd j) (vl j)) (hlo : ∀ j, j < i → a j + wd j ≤ bc) : ∀ j, j < i → fld (bA B bc v w) (a j) (wd j) (vl j) := fun j hj => fld_keep (h j hj) (hlo j hj)
theorem mul_lo {j i w : Nat} (h : j < i) : j * w + w ≤ i * w := by
  rw [← Nat.succ_mul]
  exact Nat.mul_le_mul_right w h
theorem oB_0 (o : Nat → Int32) (B : Nat → Bool) : oB o 0 B := fun i hi => absurd hi (by omega)
theorem lN_small {k w : Nat} (h : k < 2 ^ w) (hk : k < 18446744073709551616) : ∀ t, w ≤ t → bL (lN k) t = false := bL_small (by rw [uN_lN hk]; exact h)
def lP (xs : Nat → Int64) (n bc : Nat) (B : Nat → Bool) : Prop := bc = 64 * n ∧ ∀ i, i < n → fld B (64 * i) 64 (xs i)
def lK (xs : Nat → Int64) (n bc : Nat) (B : Nat → Bool) : Prop := bc = 72 + n * wP xs n ∧ fld B 0 64 (rLo xs n) ∧ fld B 64 8 (lN (wP xs n)) ∧ ∀ i, i < n → fld B (72 + i * wP xs n) (wP xs n) (xs i - rLo xs n)
def lL (xs : Nat → Int64) (n bc : Nat) (B : Nat → Bool) : Prop := ∃ (rs : Nat → Int64) (d : Nat) (pl : Nat → Nat), rInv xs n rs d ∧ (∀ i, i < n → rPl rs d (xs i) (pl i)) ∧ bc = 16 + 64 * d + n * bln (d - 1) ∧ fld B 0 16 (lN d) ∧ (∀ k, k < d → fld B (16 + 64 * k) 64 (rs k)) ∧ ∀ i, i < n → fld B (16 + 64 * d + i * bln (d - 1)) (bln (d - 1)) (lN (pl i))
def lR (xs : Nat → Int64) (n bc : Nat) (B : Nat → Bool) : Prop := ∃ (sb : Nat → Nat), rDc xs sb (rRn xs n) ∧ sb (rRn xs n) = n ∧ bc = 16 + 80 * rRn xs n ∧ fld B 0 16 (lN (rRn xs n)) ∧ (∀ k, k < rRn xs n → fld B (16 + 80 * k) 64 (xs (sb k))) ∧ ∀ k, k < rRn xs n → fld B (16 + 80 * k + 64) 16 (lN (sb (k + 1) - sb k))
def lS (xs : Nat → Int64) (n bc : Nat) (B : Nat → Bool) : Prop := bc = 136 + (n - 1) * wS xs n ∧ fld B 0 64 (xs 0) ∧ fld B 64 64 (sLo xs n) ∧ fld B 128 8 (lN (wS xs n)) ∧ ∀ i, i < n - 1 → fld B (136 + i * wS xs n) (wS xs n) (xs (i + 1) - xs i - sLo xs n)
theorem ask_c {P : Int64 → Bool} {xs : Nat → Int64} {i : Nat} {h h1 h2 : Int32} (e : h1 = h + nI (nC P xs i)) (f : h2 = h1 + (if P (xs i) then nI 1 else 0)) : h2 = h + nI (nC P xs (i + 1)) := by
  rw [f, e, Int32.add_assoc]
  congr 1
  show nI (nC P xs i) + _ = nI (nC P xs i + _)
  by_cases q : P (xs i) = true
  · rw [if_pos q, if_pos q]; exact nI_add _ _
  · rw [if_neg q, if_neg q]; exact Int32.add_zero _
theorem ask_s {P : Int64 → Bool} {xs : Nat → Int64} {i : Nat} {t t1 t2 : Int64} (e : t1 = t + nS P xs i) (f : t2 = t1 + (if P (xs i) then xs i * (nI 1).toInt64 else 0)) : t2 = t + nS P xs (i + 1) := by
  rw [f, e, Int64.add_assoc]
  congr 1
  show nS P xs i + _ = nS P xs i + _
  rw [show (nI 1).toInt64 = 1 by decide, Int64.mul_one]
theorem lK_of {xs : Nat → Int64} {n bc wd : Nat} {lo hi : Int64} {B : Nat → Bool} (h1 : lo = rLo xs n) (h2 : hi = rHi xs n) (hw : wd = bln (uN (hi - lo))) (h3 : bc = 72 + n * wd) (h4 : fld B 0 64 lo) (h5 : fld B 64 8 (lN wd)) (h6 : ∀ i, i < n → fld B (72 + i * wd) wd (xs i - lo)) : lK xs n bc B := by
  have e : wd = wP xs n := by rw [hw, h1, h2]; rfl
  subst e
  subst h1
  exact ⟨h3, h4, h5, h6⟩
theorem lS_of {xs : Nat → Int64} {n bc wd : Nat} {sl sh : Int64} {B : Nat → Bool} (h1 : sl = sLo xs n) (h2 : sh = sHi xs n) (hw : wd = bln (uN (sh - sl))) (h3 : bc = 136 + (n - 1) * wd) (h4 : fld B 0 64 (xs 0)) (h5 : fld B 64 64 sl) (h6 : fld B 128 8 (lN wd)) (h7 : ∀ i, i < n - 1 → fld B (136 + i * wd) wd (xs (i + 1) - xs i - sl)) : lS xs n bc B := by
  have e : wd = wS xs n := by rw [hw, h1, h2]; rfl
  subst e
  subst h1
  exact ⟨h3, h4, h5, h6, h7⟩
theorem bln_pl {d p : Nat} (h : p < d) : p < 2 ^ bln (d - 1) := Nat.lt_of_le_of_lt (by omega) (bln_lt (d - 1))
theorem bln_d {d : Nat} (h : d ≤ 1024) : bln (d - 1) ≤ 10 := bln_le (by omega)
theorem rPl_lt {xs rs : Nat → Int64} {n d i t : Nat} (h : rInv xs n rs d) (hi : i < n) (ht : rPl rs d (xs i) t) : t < d ∧ rs t = xs i := by
  obtain ⟨k, h1, h2⟩ := h.2.2.1 i hi
  have e := rPl_hit h.1 ht h1 h2
  subst e
  exact ⟨h1, h2⟩
end
section
set_option maxHeartbeats 4000000 in
set_option maxRecDepth 100000 in
theorem c_plW (l : Launch) (D : va_G) (cJ cB cI cF : ClassId) (qf : Nat) (qr : Nat) (n : Nat) (d : Nat) (rn : Nat) (lo : Int64) (hi : Int64) (sl : Int64) (sh : Int64) (qc : Nat) (qs : Nat) (sz : Nat) : Met l yPl_weigh (Cond.code yPl_weigh cPl_weigh 2 (some .int) :: wsG) ({ frames := 0, cells := 0, slots := 0, locals := 0 }) (va_Pc [.ref qf, .ref qr] (cfPre D (cfT cJ cB cI cF) [(qf, .inr (3, [])), (qr, .inr (5, [.int (nI n), .int (nI d), .int (nI rn), .long lo, .long hi, .long sl, .long sh, .ref qc, .ref qs]))] sz)) (va_Qi (fun (r : Int32) (u : Unit) => r = nI (8 * n) ∧ True) (fun u t => cfPost D ((fun (u : Unit) => [(qf, .inr (3, [])), (qr, .inr (5, [.int (nI n), .int (nI d), .int (nI rn), .long lo, .long hi, .long sl, .long sh, .ref qc, .ref qs]))]) u) (va_A [(qf, .inr (3, [])), (qr, .inr (5, [.int (nI n), .int (nI d), .int (nI rn), .long lo, .long hi, .long sl, .long sh, .ref qc, .ref qs]))] sz) t) (va_A [(qf, .inr (3, [])), (qr, .inr (5, [.int (nI n), .int (nI d), .int (nI rn), .long lo, .long hi, .long sl, .long sh, .ref qc, .ref qs]))] sz)) 0 0 (va_A [(qf, .inr (3, [])), (qr, .inr (5, [.int (nI n), .int (nI d), .int (nI rn), .long lo, .long hi, .long sl, .long sh, .ref qc, .ref qs]))] sz) := by
  refine met_i (cc := cPl_weigh) (maxL := 2) (S := Unit) (D := D) (wO := fun (u : Unit) => [(qf, .inr (3, [])), (qr, .inr (5, [.int (nI n), .int (nI d), .int (nI rn), .long lo, .long hi, .long sl, .long sh, .ref qc, .ref qs]))]) (by decide) (Nat.le_of_ble_eq_true rfl) ?_
  intro p e s m below meth c hx hb hml hown hts hlocks hin hWd A hA hsz hP hK hD hS Q hret ls hl
  have hown : s.vm.findClass "ColumnForms$Plain" = some m.cls := hown
  have hl : lv_has ls 2 [(0, .ref qf), (1, .ref qr)] := hl
  have hP : va_P D vwCl [(qf, .inr (3, [])), (qr, .inr (5, [.int (nI n), .int (nI d), .int (nI rn), .long lo, .long hi, .long sl, .long sh, .ref qc, .ref qs]))] s.heap := hP
  refine lv_bipush (v := nI 8) hx hb dPl_weigh_0 (by decide) ?_
  refine lv_aload_n hx hb dPl_weigh_2 rfl (lv_at hl 1 rfl) ?_
  refine va_get (D := D) (ci := 5) (v := .int (nI n)) (C := "ColumnForms$Row") (T := TRo) (N := 9) hx hb hts inRo hown hK hP 1 rfl rfl 0 (by decide) (hts _ tw_37) (fun _ h9 => h9) rfl dPl_weigh_3 ?_
  refine lv_imul hx hb dPl_weigh_6 ?_
  refine tp_i (show ((nI 8) * (nI n)) = (nI (8 * n)) from pk_mul _ _) ?_
  exact hret (nI (8 * n)) () _ _ _ _ _ _ ⟨rfl, trivial⟩ (hP.sub [0, 1] rfl) (hD.sub [0, 1] (by decide) rfl) hS (Nat.le_of_ble_eq_true rfl) (Nat.le_of_ble_eq_true rfl) dPl_weigh_7

set_option maxHeartbeats 4000000 in
set_option maxRecDepth 100000 in
theorem c_plL (l : Launch) (D : va_G) (cJ cB cI cF : ClassId) (qf : Nat) (qr : Nat) (n : Nat) (d : Nat) (rn : Nat) (lo : Int64) (hi : Int64) (sl : Int64) (sh : Int64) (qc : Nat) (qs : Nat) (xs : Nat → Int64) (rs : Nat → Int64) (qb : Nat) (qo : Nat) (o : Nat → Int32) (sz : Nat) (hR : rAll xs n d rn lo hi sl sh rs) (hn0 : 0 < n) : Met l yPl_lay (Cond.code yPl_lay cPl_lay 4 none :: wsG) ({ frames := 2, cells := 0, slots := 0, locals := 52 }) (va_Pc [.ref qf, .ref qr, .ref qb] (cfPre D (cfT cJ cB cI cF) [(qf, .inr (3, [])), (qr, .inr (5, [.int (nI n), .int (nI d), .int (nI rn), .long lo, .long hi, .long sl, .long sh, .ref qc, .ref qs])), (qc, .inl (cJ, 1024, .inr (.inl xs))), (qb, .inr (0, [.ref qo, .int (nI 0)])), (qo, .inl (cB, 10242, .inl o))] sz)) (va_Qv (fun (u : Nat × (Nat → Int32) × (Nat → Bool)) => (oB u.2.1 u.1 u.2.2) ∧ (lP xs n u.1 u.2.2) ∧ (u.1 ≤ 81936) ∧ True) (fun u t => cfPost D ((fun (u : Nat × (Nat → Int32) × (Nat → Bool)) => [(qf, .inr (3, [])), (qr, .inr (5, [.int (nI n), .int (nI d), .int (nI rn), .long lo, .long hi, .long sl, .long sh, .ref qc, .ref qs])), (qc, .inl (cJ, 1024, .inr (.inl xs))), (qb, .inr (0, [.ref qo, .int (nI u.1)])), (qo, .inl (cB, 10242, .inl u.2.1))]) u) (va_A [(qf, .inr (3, [])), (qr, .inr (5, [.int (nI n), .int (nI d), .int (nI rn), .long lo, .long hi, .long sl, .long sh, .ref qc, .ref qs])), (qc, .inl (cJ, 1024, .inr (.inl xs))), (qb, .inr (0, [.ref qo, .int (nI 0)])), (qo, .inl (cB, 10242, .inl o))] sz) t) (va_A [(qf, .inr (3, [])), (qr, .inr (5, [.int (nI n), .int (nI d), .int (nI rn), .long lo, .long hi, .long sl, .long sh, .ref qc, .ref qs])), (qc, .inl (cJ, 1024, .inr (.inl xs))), (qb, .inr (0, [.ref qo, .int (nI 0)])), (qo, .inl (cB, 10242, .inl o))] sz)) 0 0 (va_A [(qf, .inr (3, [])), (qr, .inr (5, [.int (nI n), .int (nI d), .int (nI rn), .long lo, .long hi, .long sl, .long sh, .ref qc, .ref qs])), (qc, .inl (cJ, 1024, .inr (.inl xs))), (qb, .inr (0, [.ref qo, .int (nI 0)])), (qo, .inl (cB, 10242, .inl o))] sz) := by
  refine met_v (cc := cPl_lay) (maxL := 4) (S := Nat × (Nat → Int32) × (Nat → Bool)) (D := D) (wO := fun (u : Nat × (Nat → Int32) × (Nat → Bool)) => [(qf, .inr (3, [])), (qr, .inr (5, [.int (nI n), .int (nI d), .int (nI rn), .long lo, .long hi, .long sl, .long sh, .ref qc, .ref qs])), (qc, .inl (cJ, 1024, .inr (.inl xs))), (qb, .inr (0, [.ref qo, .int (nI u.1)])), (qo, .inl (cB, 10242, .inl u.2.1))]) (by decide) (Nat.le_of_ble_eq_true rfl) ?_
  intro p e s m below meth c hx hb hml hown hts hlocks hin hWd A hA hsz hP hK hD hS Q hret ls hl
  have hown : s.vm.findClass "ColumnForms$Plain" = some m.cls := hown
  have hl : lv_has ls 4 [(0, .ref qf), (1, .ref qr), (2, .ref qb)] := hl
  have hP : va_P D vwCl [(qf, .inr (3, [])), (qr, .inr (5, [.int (nI n), .int (nI d), .int (nI rn), .long lo, .long hi, .long sl, .long sh, .ref qc, .ref qs])), (qc, .inl (cJ, 1024, .inr (.inl xs))), (qb, .inr (0, [.ref qo, .int (nI 0)])), (qo, .inl (cB, 10242, .inl o))] s.heap := hP
  have hn := hR.1
  refine lv_iconst (v := nI 0) hx hb dPl_lay_0 (by decide) ?_
  refine lv_istore_n (lv' := [(3, .int (nI 0)), (0, .ref qf), (1, .ref qr), (2, .ref qb)]) hx hb dPl_lay_1 rfl hl (by decide) rfl (fun ls hl => ?_)
  have lp : ∀ (k_lp : Nat) (i : Nat) (bq : Nat) (o1 : Nat → Int32) (B1 : Nat → Bool), (i ≤ n) → (bq = 64 * i) → (oB o1 bq B1) → (∀ j, j < i → fld B1 (64 * j) 64 (xs j)) → (n - i < k_lp) → ∀ (H : Heap) (locs : List Loc) (ls : Array Slot), va_P D vwCl [(qf, .inr (3, [])), (qr, .inr (5, [.int (nI n), .int (nI d), .int (nI rn), .long lo, .long hi, .long sl, .long sh, .ref qc, .ref qs])), (qc, .inl (cJ, 1024, .inr (.inl xs))), (qb, .inr (0, [.ref qo, .int (nI bq)])), (qo, .inl (cB, 10242, .inl o1))] H → va_D A [(qf, .inr (3, [])), (qr, .inr (5, [.int (nI n), .int (nI d), .int (nI rn), .long lo, .long hi, .long sl, .long sh, .ref qc, .ref qs])), (qc, .inl (cJ, 1024, .inr (.inl xs))), (qb, .inr (0, [.ref qo, .int (nI bq)])), (qo, .inl (cB, 10242, .inl o1))] → va_S A s.heap H locs → lv_has ls 4 [(0, .ref qf), (1, .ref qr), (2, .ref qb), (3, .int (nI i))] → W p l e ({ frames := 2, cells := 0, slots := 0, locals := 52 }) s m ([.ref qf, .ref qr, .ref qb].toArray) below meth c H locs (0) (0) Q (F0 m 2 ls []) := by
    intro k_lp
    induction k_lp with
    | zero => intro i bq o1 B1 g1 g2 g3 g4 hfu; exact absurd hfu (by omega)
    | succ k_lp ih_lp =>
      intro i bq o1 B1 g1 g2 g3 g4 hfu H locs ls hP hD hS hl
      refine lv_iload_n hx hb dPl_lay_2 rfl (lv_at hl 3 rfl) ?_
      refine lv_aload_n hx hb dPl_lay_3 rfl (lv_at hl 1 rfl) ?_
      refine va_get (D := D) (ci := 5) (v := .int (nI n)) (C := "ColumnForms$Row") (T := TRo) (N := 9) hx hb hts inRo hown hK hP 1 rfl rfl 0 (by decide) (hts _ tw_37) (fun _ h9 => h9) rfl dPl_lay_4 ?_
      refine lv_icmp_ge (tgt := 27) hx hb dPl_lay_7 (by decide) (fun c7 => ?_) (fun c7 => ?_)
      · have c7 : n ≤ i := (nI_leI (by omega) (by omega)).mp c7
        exact hret (bq, o1, B1) _ _ _ _ _ _ ⟨g3, ⟨by show bq = _; omega, fun j hj => g4 j (by omega)⟩, by show bq ≤ _; omega, trivial⟩ (hP.sub [0, 1, 2, 3, 4] rfl) (hD.sub [0, 1, 2, 3, 4] (by decide) rfl) hS (Nat.le_of_ble_eq_true rfl) (Nat.le_of_ble_eq_true rfl) dPl_lay_27
      · have c7 : ¬ n ≤ i := fun h => c7 ((nI_leI (by omega) (by omega)).mpr h)
        refine lv_aload_n hx hb dPl_lay_10 rfl (lv_at hl 2 rfl) ?_
        refine lv_aload_n hx hb dPl_lay_11 rfl (lv_at hl 1 rfl) ?_
        refine lv_iload_n hx hb dPl_lay_12 rfl (lv_at hl 3 rfl) ?_
        refine kc_l (wc := [(qr, .inr (5, [.int (nI n), .int (nI d), .int (nI rn), .long lo, .long hi, .long sl, .long sh, .ref qc, .ref qs])), (qc, .inl (cJ, 1024, .inr (.inl xs)))]) (wr := [(qf, .inr (3, [])), (qb, .inr (0, [.ref qo, .int (nI bq)])), (qo, .inl (cB, 10242, .inl o1))]) hP hD hS hA [1, 2] [0, 3, 4] rfl rfl (by decide) (by decide) (by decide) (fun hPc hDc => va_runV (As := [.int (nI i)]) (rest := [.ref qb]) ⟨hx, hb, hml, hown, hts⟩ (c_at l D cJ cB cI cF qr n d rn lo hi sl sh qc qs xs i _ (by omega) (by omega)) (cwV 1 hts (wsG_k tw_416 (wsG_k tw_257 (wsG_k tw_258 (wsG_k tw_2 (wsG_c tw_259))))) rfl rfl rfl (by decide +kernel) ⟨Nat.le_of_ble_eq_true rfl, Nat.le_of_ble_eq_true rfl⟩) ⟨cf_blind, va_recv hK hPc (ci := 5) (q0 := 0) rfl rfl, cf_pre hPc hK hDc hWd⟩ rfl rfl hl.1 rfl (lv_room (Nat.le_of_ble_eq_true rfl)) dPl_lay_13 ⟨Nat.le_of_ble_eq_true rfl, Nat.le_of_ble_eq_true rfl⟩) (fun r u H locs hw hP hD hS => ?_)
        obtain ⟨rfl, -⟩ := hw
        have hP : va_P D vwCl [(qf, .inr (3, [])), (qb, .inr (0, [.ref qo, .int (nI bq)])), (qo, .inl (cB, 10242, .inl o1)), (qr, .inr (5, [.int (nI n), .int (nI d), .int (nI rn), .long lo, .long hi, .long sl, .long sh, .ref qc, .ref qs])), (qc, .inl (cJ, 1024, .inr (.inl xs)))] H := hP
        have hD : va_D A [(qf, .inr (3, [])), (qb, .inr (0, [.ref qo, .int (nI bq)])), (qo, .inl (cB, 10242, .inl o1)), (qr, .inr (5, [.int (nI n), .int (nI d), .int (nI rn), .long lo, .long hi, .long sl, .long sh, .ref qc, .ref qs])), (qc, .inl (cJ, 1024, .inr (.inl xs)))] := hD
        refine lv_bipush (v := nI 64) hx hb dPl_lay_16 (by decide) ?_
        refine kc_v (wc := [(qb, .inr (0, [.ref qo, .int (nI bq)])), (qo, .inl (cB, 10242, .inl o1))]) (wr := [(qf, .inr (3, [])), (qr, .inr (5, [.int (nI n), .int (nI d), .int (nI rn), .long lo, .long hi, .long sl, .long sh, .ref qc, .ref qs])), (qc, .inl (cJ, 1024, .inr (.inl xs)))]) hP hD hS hA [1, 2] [0, 3, 4] rfl rfl (by decide) (by decide) (by decide) (fun hPc hDc => va_runV (As := [.long (xs i), .int (nI 64)]) (rest := []) ⟨hx, hb, hml, hown, hts⟩ (c_append l D cJ cB cI cF qb qo bq o1 B1 (xs i) 64 _ (g3) (by omega) (by omega)) (cwV 2 hts (wsG_k tw_417 (wsG_k tw_395 (wsG_k tw_396 (wsG_k tw_3 (wsG_c tw_397))))) rfl rfl rfl (by decide +kernel) ⟨Nat.le_of_ble_eq_true rfl, Nat.le_of_ble_eq_true rfl⟩) ⟨cf_blind, va_recv hK hPc (ci := 0) (q0 := 0) rfl rfl, cf_pre hPc hK hDc hWd⟩ rfl rfl hl.1 rfl (lv_room (Nat.le_of_ble_eq_true rfl)) dPl_lay_18 ⟨Nat.le_of_ble_eq_true rfl, Nat.le_of_ble_eq_true rfl⟩) (fun u H locs hw hP hD hS => ?_)
        obtain ⟨o2_1, rfl⟩ : ∃ z, z = u := ⟨u, rfl⟩
        obtain ⟨f9, -⟩ := hw
        have f9 : oB o2_1 (bq + 64) (bA B1 bq (xs i) 64) := f9
        have hP : va_P D vwCl [(qf, .inr (3, [])), (qr, .inr (5, [.int (nI n), .int (nI d), .int (nI rn), .long lo, .long hi, .long sl, .long sh, .ref qc, .ref qs])), (qc, .inl (cJ, 1024, .inr (.inl xs))), (qb, .inr (0, [.ref qo, .int (nI (bq + 64))])), (qo, .inl (cB, 10242, .inl o2_1))] H := hP
        have hD : va_D A [(qf, .inr (3, [])), (qr, .inr (5, [.int (nI n), .int (nI d), .int (nI rn), .long lo, .long hi, .long sl, .long sh, .ref qc, .ref qs])), (qc, .inl (cJ, 1024, .inr (.inl xs))), (qb, .inr (0, [.ref qo, .int (nI (bq + 64))])), (qo, .inl (cB, 10242, .inl o2_1))] := hD
        refine lv_iinc (v := nI (i + 1)) (lv' := [(3, .int (nI (i + 1))), (0, .ref qf), (1, .ref qr), (2, .ref qb)]) hx hb dPl_lay_21 hl (k := 3) rfl (by rw [show (Int32.ofInt 1) = nI 1 from by decide]; exact nI_add _ _) (by decide) rfl (fun ls hl => ?_)
        refine lv_goto (tgt := 2) hx hb dPl_lay_24 (by decide) ?_
        exact ih_lp (i + 1) (bq + 64) o2_1 (bA B1 bq (xs i) 64) (by omega) (by omega) (f9) (fld_add (a := fun j => 64 * j) (wd := fun _ => 64) (vl := xs) g4 (fun j hj => by show 64 * j + 64 ≤ bq; omega) (by show 64 * i = bq; omega) rfl rfl) (by omega) _ _ _ (hP.sub [0, 1, 2, 3, 4] rfl) (hD.sub [0, 1, 2, 3, 4] (by decide) rfl) hS (lv_sub hl [1, 2, 3, 0] rfl)
  exact lp (n - 0 + 1) 0 0 o (fun _ => false) (Nat.zero_le n) (rfl) (oB_0 o _) (fun j hj => absurd hj (by omega)) (by omega) _ _ _ (hP.sub [0, 1, 2, 3, 4] rfl) (hD.sub [0, 1, 2, 3, 4] (by decide) rfl) hS (lv_sub hl [1, 2, 3, 0] rfl)

set_option maxHeartbeats 4000000 in
set_option maxRecDepth 100000 in
theorem c_plR (l : Launch) (D : va_G) (cJ cB cI cF : ClassId) (qf : Nat) (qb : Nat) (qo : Nat) (bc : Nat) (o : Nat → Int32) (B : Nat → Bool) (xs : Nat → Int64) (n : Nat) (i : Nat) (sz : Nat) (hc : oB o bc B) (hbm : bc ≤ 81936) (hn : n ≤ 1024) (hL : lP xs n bc B) (hi1 : i < n) : Met l yPl_read (Cond.code yPl_read cPl_read 3 (some .long) :: wsG) ({ frames := 2, cells := 0, slots := 0, locals := 51 }) (va_Pc [.ref qf, .ref qb, .int (nI i)] (cfPre D (cfT cJ cB cI cF) [(qf, .inr (3, [])), (qb, .inr (0, [.ref qo, .int (nI bc)])), (qo, .inl (cB, 10242, .inl o))] sz)) (va_Ql (fun (r : Int64) (u : Unit) => r = xs i ∧ True) (fun u t => cfPost D ((fun (u : Unit) => [(qf, .inr (3, [])), (qb, .inr (0, [.ref qo, .int (nI bc)])), (qo, .inl (cB, 10242, .inl o))]) u) (va_A [(qf, .inr (3, [])), (qb, .inr (0, [.ref qo, .int (nI bc)])), (qo, .inl (cB, 10242, .inl o))] sz) t) (va_A [(qf, .inr (3, [])), (qb, .inr (0, [.ref qo, .int (nI bc)])), (qo, .inl (cB, 10242, .inl o))] sz)) 0 0 (va_A [(qf, .inr (3, [])), (qb, .inr (0, [.ref qo, .int (nI bc)])), (qo, .inl (cB, 10242, .inl o))] sz) := by
  refine met_l (cc := cPl_read) (maxL := 3) (S := Unit) (D := D) (wO := fun (u : Unit) => [(qf, .inr (3, [])), (qb, .inr (0, [.ref qo, .int (nI bc)])), (qo, .inl (cB, 10242, .inl o))]) (by decide) (Nat.le_of_ble_eq_true rfl) ?_
  intro p e s m below meth c hx hb hml hown hts hlocks hin hWd A hA hsz hP hK hD hS Q hret ls hl
  have hown : s.vm.findClass "ColumnForms$Plain" = some m.cls := hown
  have hl : lv_has ls 3 [(0, .ref qf), (1, .ref qb), (2, .int (nI i))] := hl
  have hP : va_P D vwCl [(qf, .inr (3, [])), (qb, .inr (0, [.ref qo, .int (nI bc)])), (qo, .inl (cB, 10242, .inl o))] s.heap := hP
  have h0 := hL.1
  refine lv_aload_n hx hb dPl_read_0 rfl (lv_at hl 1 rfl) ?_
  refine lv_bipush (v := nI 64) hx hb dPl_read_1 (by decide) ?_
  refine lv_iload_n hx hb dPl_read_3 rfl (lv_at hl 2 rfl) ?_
  refine lv_imul hx hb dPl_read_4 ?_
  refine tp_i (show ((nI 64) * (nI i)) = (nI (64 * i)) from pk_mul _ _) ?_
  refine lv_bipush (v := nI 64) hx hb dPl_read_5 (by decide) ?_
  refine kc_l (wc := [(qb, .inr (0, [.ref qo, .int (nI bc)])), (qo, .inl (cB, 10242, .inl o))]) (wr := [(qf, .inr (3, []))]) hP hD hS hA [1, 2] [0] rfl rfl (by decide) (by decide) (by decide) (fun hPc hDc => va_runV (As := [.int (nI (64 * i)), .int (nI 64)]) (rest := []) ⟨hx, hb, hml, hown, hts⟩ (c_bitsAt l D cJ cB cI cF qb qo bc o B (64 * i) 64 (xs i) _ (hc) (hbm) (by omega) (by omega) (hL.2 i hi1) (bL_64)) (cwV 2 hts (wsG_k tw_479 (wsG_k tw_465 (wsG_k tw_466 (wsG_k tw_3 (wsG_c tw_467))))) rfl rfl rfl (by decide +kernel) ⟨Nat.le_of_ble_eq_true rfl, Nat.le_of_ble_eq_true rfl⟩) ⟨cf_blind, va_recv hK hPc (ci := 0) (q0 := 0) rfl rfl, cf_pre hPc hK hDc hWd⟩ rfl rfl hl.1 rfl (lv_room (Nat.le_of_ble_eq_true rfl)) dPl_read_7 ⟨Nat.le_of_ble_eq_true rfl, Nat.le_of_ble_eq_true rfl⟩) (fun r u H locs hw hP hD hS => ?_)
  obtain ⟨rfl, -⟩ := hw
  have hP : va_P D vwCl [(qf, .inr (3, [])), (qb, .inr (0, [.ref qo, .int (nI bc)])), (qo, .inl (cB, 10242, .inl o))] H := hP
  have hD : va_D A [(qf, .inr (3, [])), (qb, .inr (0, [.ref qo, .int (nI bc)])), (qo, .inl (cB, 10242, .inl o))] := hD
  exact hret (xs i) () _ _ _ _ _ _ ⟨rfl, trivial⟩ (hP.sub [0, 1, 2] rfl) (hD.sub [0, 1, 2] (by decide) rfl) hS (Nat.le_of_ble_eq_true rfl) (Nat.le_of_ble_eq_true rfl) dPl_read_10

set_option maxHeartbeats 4000000 in
set_option maxRecDepth 100000 in
theorem c_plA (l : Launch) (D : va_G) (cJ cB cI cF : ClassId) (qf : Nat) (qb : Nat) (qo : Nat) (bc : Nat) (o : Nat → Int32) (B : Nat → Bool) (xs : Nat → Int64) (n : Nat) (qq : Nat) (ht_ : Int32) (tt : Int64) (kd : Nat) (low : Int64) (high : Int64) (sz : Nat) (hc : oB o bc B) (hbm : bc ≤ 81936) (hn : n ≤ 1024) (hn0 : 0 < n) (hL : lP xs n bc B) (hk : kd < 5) : Met l yPl_askAll (Cond.code yPl_askAll cPl_askAll 5 none :: wsG) ({ frames := 3, cells := 0, slots := 0, locals := 73 }) (va_Pc [.ref qf, .ref qb, .int (nI n), .ref qq] (cfPre D (cfT cJ cB cI cF) [(qf, .inr (3, [])), (qb, .inr (0, [.ref qo, .int (nI bc)])), (qo, .inl (cB, 10242, .inl o)), (qq, .inr (4, [.int ht_, .long tt, .int (nI kd), .long low, .long high]))] sz)) (va_Qv (fun (u : Int32 × Int64) => (u.1 = ht_ + nI (nC (qF kd low high) xs n)) ∧ (u.2 = tt + nS (qF kd low high) xs n) ∧ True) (fun u t => cfPost D ((fun (u : Int32 × Int64) => [(qf, .inr (3, [])), (qb, .inr (0, [.ref qo, .int (nI bc)])), (qo, .inl (cB, 10242, .inl o)), (qq, .inr (4, [.int u.1, .long u.2, .int (nI kd), .long low, .long high]))]) u) (va_A [(qf, .inr (3, [])), (qb, .inr (0, [.ref qo, .int (nI bc)])), (qo, .inl (cB, 10242, .inl o)), (qq, .inr (4, [.int ht_, .long tt, .int (nI kd), .long low, .long high]))] sz) t) (va_A [(qf, .inr (3, [])), (qb, .inr (0, [.ref qo, .int (nI bc)])), (qo, .inl (cB, 10242, .inl o)), (qq, .inr (4, [.int ht_, .long tt, .int (nI kd), .long low, .long high]))] sz)) 0 0 (va_A [(qf, .inr (3, [])), (qb, .inr (0, [.ref qo, .int (nI bc)])), (qo, .inl (cB, 10242, .inl o)), (qq, .inr (4, [.int ht_, .long tt, .int (nI kd), .long low, .long high]))] sz) := by
  refine met_v (cc := cPl_askAll) (maxL := 5) (S := Int32 × Int64) (D := D) (wO := fun (u : Int32 × Int64) => [(qf, .inr (3, [])), (qb, .inr (0, [.ref qo, .int (nI bc)])), (qo, .inl (cB, 10242, .inl o)), (qq, .inr (4, [.int u.1, .long u.2, .int (nI kd), .long low, .long high]))]) (by decide) (Nat.le_of_ble_eq_true rfl) ?_
  intro p e s m below meth c hx hb hml hown hts hlocks hin hWd A hA hsz hP hK hD hS Q hret ls hl
  have hown : s.vm.findClass "ColumnForms$Plain" = some m.cls := hown
  have hl : lv_has ls 5 [(0, .ref qf), (1, .ref qb), (2, .int (nI n)), (3, .ref qq)] := hl
  have hP : va_P D vwCl [(qf, .inr (3, [])), (qb, .inr (0, [.ref qo, .int (nI bc)])), (qo, .inl (cB, 10242, .inl o)), (qq, .inr (4, [.int ht_, .long tt, .int (nI kd), .long low, .long high]))] s.heap := hP
  refine lv_iconst (v := nI 0) hx hb dPl_askAll_0 (by decide) ?_
  refine lv_istore (lv' := [(4, .int (nI 0)), (0, .ref qf), (1, .ref qb), (2, .int (nI n)), (3, .ref qq)]) hx hb dPl_askAll_1 hl (by decide) rfl (fun ls hl => ?_)
  have lp : ∀ (k_lp : Nat) (i : Nat) (h1 : Int32) (t1 : Int64), (i ≤ n) → (h1 = ht_ + nI (nC (qF kd low high) xs i)) → (t1 = tt + nS (qF kd low high) xs i) → (n - i < k_lp) → ∀ (H : Heap) (locs : List Loc) (ls : Array Slot), va_P D vwCl [(qf, .inr (3, [])), (qb, .inr (0, [.ref qo, .int (nI bc)])), (qo, .inl (cB, 10242, .inl o)), (qq, .inr (4, [.int h1, .long t1, .int (nI kd), .long low, .long high]))] H → va_D A [(qf, .inr (3, [])), (qb, .inr (0, [.ref qo, .int (nI bc)])), (qo, .inl (cB, 10242, .inl o)), (qq, .inr (4, [.int h1, .long t1, .int (nI kd), .long low, .long high]))] → va_S A s.heap H locs → lv_has ls 5 [(0, .ref qf), (1, .ref qb), (2, .int (nI n)), (3, .ref qq), (4, .int (nI i))] → W p l e ({ frames := 3, cells := 0, slots := 0, locals := 73 }) s m ([.ref qf, .ref qb, .int (nI n), .ref qq].toArray) below meth c H locs (0) (0) Q (F0 m 3 ls []) := by
    intro k_lp
    induction k_lp with
    | zero => intro i h1 t1 g1 g2 g3 hfu; exact absurd hfu (by omega)
    | succ k_lp ih_lp =>
      intro i h1 t1 g1 g2 g3 hfu H locs ls hP hD hS hl
      refine lv_iload hx hb dPl_askAll_3 (lv_at hl 4 rfl) ?_
      refine lv_iload_n hx hb dPl_askAll_5 rfl (lv_at hl 2 rfl) ?_
      refine lv_icmp_ge (tgt := 27) hx hb dPl_askAll_6 (by decide) (fun c6 => ?_) (fun c6 => ?_)
      · have c6 : n ≤ i := (nI_leI (by omega) (by omega)).mp c6
        exact hret (h1, t1) _ _ _ _ _ _ ⟨by show h1 = _; rw [g2, show i = n by omega], by show t1 = _; rw [g3, show i = n by omega], trivial⟩ (hP.sub [0, 1, 2, 3] rfl) (hD.sub [0, 1, 2, 3] (by decide) rfl) hS (Nat.le_of_ble_eq_true rfl) (Nat.le_of_ble_eq_true rfl) dPl_askAll_27
      · have c6 : ¬ n ≤ i := fun h => c6 ((nI_leI (by omega) (by omega)).mpr h)
        refine lv_aload_n hx hb dPl_askAll_9 rfl (lv_at hl 3 rfl) ?_
        refine lv_aload_n hx hb dPl_askAll_10 rfl (lv_at hl 0 rfl) ?_
        refine lv_aload_n hx hb dPl_askAll_11 rfl (lv_at hl 1 rfl) ?_
        refine lv_iload hx hb dPl_askAll_12 (lv_at hl 4 rfl) ?_
        refine kc_l (wc := [(qf, .inr (3, [])), (qb, .inr (0, [.ref qo, .int (nI bc)])), (qo, .inl (cB, 10242, .inl o))]) (wr := [(qq, .inr (4, [.int h1, .long t1, .int (nI kd), .long low, .long high]))]) hP hD hS hA [0, 1, 2] [3] rfl rfl (by decide) (by decide) (by decide) (fun hPc hDc => va_runV (As := [.ref qb, .int (nI i)]) (rest := [.ref qq]) ⟨hx, hb, hml, hown, hts⟩ (c_plR l D cJ cB cI cF qf qb qo bc o B xs n i _ (hc) (hbm) (hn) (hL) (by omega)) (cwV 2 hts (wsG_k tw_566 (wsG_k tw_477 (wsG_k tw_746 (wsG_k tw_5 (wsG_c tw_478))))) rfl rfl rfl (by decide +kernel) ⟨Nat.le_of_ble_eq_true rfl, Nat.le_of_ble_eq_true rfl⟩) ⟨cf_blind, va_recv hK hPc (ci := 3) (q0 := 0) rfl rfl, cf_pre hPc hK hDc hWd⟩ rfl rfl hl.1 rfl (lv_room (Nat.le_of_ble_eq_true rfl)) dPl_askAll_14 ⟨Nat.le_of_ble_eq_true rfl, Nat.le_of_ble_eq_true rfl⟩) (fun r u H locs hw hP hD hS => ?_)
        obtain ⟨rfl, -⟩ := hw
        have hP : va_P D vwCl [(qq, .inr (4, [.int h1, .long t1, .int (nI kd), .long low, .long high])), (qf, .inr (3, [])), (qb, .inr (0, [.ref qo, .int (nI bc)])), (qo, .inl (cB, 10242, .inl o))] H := hP
        have hD : va_D A [(qq, .inr (4, [.int h1, .long t1, .int (nI kd), .long low, .long high])), (qf, .inr (3, [])), (qb, .inr (0, [.ref qo, .int (nI bc)])), (qo, .inl (cB, 10242, .inl o))] := hD
        refine lv_iconst (v := nI 1) hx hb dPl_askAll_17 (by decide) ?_
        refine kc_v (wc := [(qq, .inr (4, [.int h1, .long t1, .int (nI kd), .long low, .long high]))]) (wr := [(qf, .inr (3, [])), (qb, .inr (0, [.ref qo, .int (nI bc)])), (qo, .inl (cB, 10242, .inl o))]) hP hD hS hA [0] [1, 2, 3] rfl rfl (by decide) (by decide) (by decide) (fun hPc hDc => va_runV (As := [.long (xs i), .int (nI 1)]) (rest := []) ⟨hx, hb, hml, hown, hts⟩ (c_ask l D cJ cB cI cF qq h1 t1 kd low high (xs i) (nI 1) _ (hk)) (cwV 2 hts (wsG_k tw_567 (wsG_k tw_552 (wsG_k tw_553 (wsG_k tw_20 (wsG_c tw_554))))) rfl rfl rfl (by decide +kernel) ⟨Nat.le_of_ble_eq_true rfl, Nat.le_of_ble_eq_true rfl⟩) ⟨cf_blind, va_recv hK hPc (ci := 4) (q0 := 0) rfl rfl, cf_pre hPc hK hDc hWd⟩ rfl rfl hl.1 rfl (lv_room (Nat.le_of_ble_eq_true rfl)) dPl_askAll_18 ⟨Nat.le_of_ble_eq_true rfl, Nat.le_of_ble_eq_true rfl⟩) (fun u H locs hw hP hD hS => ?_)
        obtain ⟨h2_1, t2_2⟩ := u
        obtain ⟨a1, a2, -⟩ := hw
        have a1 : h2_1 = h1 + (if qF kd low high (xs i) then (nI 1) else 0) := a1
        have a2 : t2_2 = t1 + (if qF kd low high (xs i) then (xs i) * (nI 1).toInt64 else 0) := a2
        have hP : va_P D vwCl [(qf, .inr (3, [])), (qb, .inr (0, [.ref qo, .int (nI bc)])), (qo, .inl (cB, 10242, .inl o)), (qq, .inr (4, [.int h2_1, .long t2_2, .int (nI kd), .long low, .long high]))] H := hP
        have hD : va_D A [(qf, .inr (3, [])), (qb, .inr (0, [.ref qo, .int (nI bc)])), (qo, .inl (cB, 10242, .inl o)), (qq, .inr (4, [.int h2_1, .long t2_2, .int (nI kd), .long low, .long high]))] := hD
        refine lv_iinc (v := nI (i + 1)) (lv' := [(4, .int (nI (i + 1))), (0, .ref qf), (1, .ref qb), (2, .int (nI n)), (3, .ref qq)]) hx hb dPl_askAll_21 hl (k := 4) rfl (by rw [show (Int32.ofInt 1) = nI 1 from by decide]; exact nI_add _ _) (by decide) rfl (fun ls hl => ?_)
        refine lv_goto (tgt := 3) hx hb dPl_askAll_24 (by decide) ?_
        exact ih_lp (i + 1) h2_1 t2_2 (by omega) (ask_c g2 a1) (ask_s g3 a2) (by omega) _ _ _ (hP.sub [0, 1, 2, 3] rfl) (hD.sub [0, 1, 2, 3] (by decide) rfl) hS (lv_sub hl [1, 2, 3, 4, 0] rfl)
  exact lp (n - 0 + 1) 0 ht_ tt (Nat.zero_le n) ((Int32.add_zero _).symm) ((Int64.add_zero _).symm) (by omega) _ _ _ (hP.sub [0, 1, 2, 3] rfl) (hD.sub [0, 1, 2, 3] (by decide) rfl) hS (lv_sub hl [1, 2, 3, 4, 0] rfl)

set_option maxHeartbeats 4000000 in
set_option maxRecDepth 100000 in
theorem c_paO (l : Launch) (D : va_G) (cJ cB cI cF : ClassId) (qr : Nat) (n : Nat) (d : Nat) (rn : Nat) (lo : Int64) (hi : Int64) (sl : Int64) (sh : Int64) (qc : Nat) (qs : Nat) (sz : Nat) : Met l yPa_widthOf (Cond.code yPa_widthOf cPa_widthOf 1 (some .int) :: wsG) ({ frames := 3, cells := 0, slots := 0, locals := 64 }) (va_Pc [.ref qr] (cfPre D (cfT cJ cB cI cF) [(qr, .inr (5, [.int (nI n), .int (nI d), .int (nI rn), .long lo, .long hi, .long sl, .long sh, .ref qc, .ref qs]))] sz)) (va_Qi (fun (r : Int32) (u : Unit) => r = nI (bln (uN (hi - lo))) ∧ True) (fun u t => cfPost D ((fun (u : Unit) => [(qr, .inr (5, [.int (nI n), .int (nI d), .int (nI rn), .long lo, .long hi, .long sl, .long sh, .ref qc, .ref qs]))]) u) (va_A [(qr, .inr (5, [.int (nI n), .int (nI d), .int (nI rn), .long lo, .long hi, .long sl, .long sh, .ref qc, .ref qs]))] sz) t) (va_A [(qr, .inr (5, [.int (nI n), .int (nI d), .int (nI rn), .long lo, .long hi, .long sl, .long sh, .ref qc, .ref qs]))] sz)) 0 0 (va_A [(qr, .inr (5, [.int (nI n), .int (nI d), .int (nI rn), .long lo, .long hi, .long sl, .long sh, .ref qc, .ref qs]))] sz) := by
  refine met_i (cc := cPa_widthOf) (maxL := 1) (S := Unit) (D := D) (wO := fun (u : Unit) => [(qr, .inr (5, [.int (nI n), .int (nI d), .int (nI rn), .long lo, .long hi, .long sl, .long sh, .ref qc, .ref qs]))]) (by decide) (Nat.le_of_ble_eq_true rfl) ?_
  intro p e s m below meth c hx hb hml hown hts hlocks hin hWd A hA hsz hP hK hD hS Q hret ls hl
  have hown : s.vm.findClass "ColumnForms$Packed" = some m.cls := hown
  have hl : lv_has ls 1 [(0, .ref qr)] := hl
  have hP : va_P D vwCl [(qr, .inr (5, [.int (nI n), .int (nI d), .int (nI rn), .long lo, .long hi, .long sl, .long sh, .ref qc, .ref qs]))] s.heap := hP
  refine lv_aload_n hx hb dPa_widthOf_0 rfl (lv_at hl 0 rfl) ?_
  refine va_get (D := D) (ci := 5) (v := .long hi) (C := "ColumnForms$Row") (T := TRo) (N := 9) hx hb hts inRo hown hK hP 0 rfl rfl 4 (by decide) (hts _ tw_49) (fun _ h9 => h9) rfl dPa_widthOf_1 ?_
  refine lv_aload_n hx hb dPa_widthOf_4 rfl (lv_at hl 0 rfl) ?_
  refine va_get (D := D) (ci := 5) (v := .long lo) (C := "ColumnForms$Row") (T := TRo) (N := 9) hx hb hts inRo hown hK hP 0 rfl rfl 3 (by decide) (hts _ tw_47) (fun _ h9 => h9) rfl dPa_widthOf_5 ?_
  refine lv_lsub hx hb dPa_widthOf_8 ?_
  refine kc_i (wc := []) (wr := [(qr, .inr (5, [.int (nI n), .int (nI d), .int (nI rn), .long lo, .long hi, .long sl, .long sh, .ref qc, .ref qs]))]) hP hD hS hA [] [0] rfl rfl (by decide) (by decide) (by decide) (fun hPc hDc => va_runSN (As := [.long (hi - lo)]) (rest := []) ⟨hx, hb, hml, hown, hts⟩ (c_bits l D cJ cB cI cF (hi - lo) _) (⟨va_cnB 1 hts (wsG_c tw_337) rfl rfl rfl (hWd.nest 15 rfl) (hts _ tw_1) (by decide +kernel) ⟨Nat.le_of_ble_eq_true rfl, Nat.le_of_ble_eq_true rfl⟩, hts _ tw_336, trivial⟩) ⟨cf_blind, cf_pre hPc hK hDc hWd⟩ rfl rfl hl.1 rfl (lv_room (Nat.le_of_ble_eq_true rfl)) dPa_widthOf_9 ⟨Nat.le_of_ble_eq_true rfl, Nat.le_of_ble_eq_true rfl⟩) (fun r u H locs hw hP hD hS => ?_)
  obtain ⟨rfl, -⟩ := hw
  have hP : va_P D vwCl [(qr, .inr (5, [.int (nI n), .int (nI d), .int (nI rn), .long lo, .long hi, .long sl, .long sh, .ref qc, .ref qs]))] H := hP
  have hD : va_D A [(qr, .inr (5, [.int (nI n), .int (nI d), .int (nI rn), .long lo, .long hi, .long sl, .long sh, .ref qc, .ref qs]))] := hD
  exact hret (nI (bln (uN (hi - lo)))) () _ _ _ _ _ _ ⟨rfl, trivial⟩ (hP.sub [0] rfl) (hD.sub [0] (by decide) rfl) hS (Nat.le_of_ble_eq_true rfl) (Nat.le_of_ble_eq_true rfl) dPa_widthOf_12

set_option maxHeartbeats 4000000 in
set_option maxRecDepth 100000 in
theorem c_paW (l : Launch) (D : va_G) (cJ cB cI cF : ClassId) (qf : Nat) (qr : Nat) (n : Nat) (d : Nat) (rn : Nat) (lo : Int64) (hi : Int64) (sl : Int64) (sh : Int64) (qc : Nat) (qs : Nat) (sz : Nat) (hn : n ≤ 1024) : Met l yPa_weigh (Cond.code yPa_weigh cPa_weigh 2 (some .int) :: wsG) ({ frames := 4, cells := 0, slots := 0, locals := 84 }) (va_Pc [.ref qf, .ref qr] (cfPre D (cfT cJ cB cI cF) [(qf, .inr (2, [])), (qr, .inr (5, [.int (nI n), .int (nI d), .int (nI rn), .long lo, .long hi, .long sl, .long sh, .ref qc, .ref qs]))] sz)) (va_Qi (fun (r : Int32) (u : Unit) => r = nI ((72 + n * bln (uN (hi - lo)) + 7) / 8) ∧ True) (fun u t => cfPost D ((fun (u : Unit) => [(qf, .inr (2, [])), (qr, .inr (5, [.int (nI n), .int (nI d), .int (nI rn), .long lo, .long hi, .long sl, .long sh, .ref qc, .ref qs]))]) u) (va_A [(qf, .inr (2, [])), (qr, .inr (5, [.int (nI n), .int (nI d), .int (nI rn), .long lo, .long hi, .long sl, .long sh, .ref qc, .ref qs]))] sz) t) (va_A [(qf, .inr (2, [])), (qr, .inr (5, [.int (nI n), .int (nI d), .int (nI rn), .long lo, .long hi, .long sl, .long sh, .ref qc, .ref qs]))] sz)) 0 0 (va_A [(qf, .inr (2, [])), (qr, .inr (5, [.int (nI n), .int (nI d), .int (nI rn), .long lo, .long hi, .long sl, .long sh, .ref qc, .ref qs]))] sz) := by
  refine met_i (cc := cPa_weigh) (maxL := 2) (S := Unit) (D := D) (wO := fun (u : Unit) => [(qf, .inr (2, [])), (qr, .inr (5, [.int (nI n), .int (nI d), .int (nI rn), .long lo, .long hi, .long sl, .long sh, .ref qc, .ref qs]))]) (by decide) (Nat.le_of_ble_eq_true rfl) ?_
  intro p e s m below meth c hx hb hml hown hts hlocks hin hWd A hA hsz hP hK hD hS Q hret ls hl
  have hown : s.vm.findClass "ColumnForms$Packed" = some m.cls := hown
  have hl : lv_has ls 2 [(0, .ref qf), (1, .ref qr)] := hl
  have hP : va_P D vwCl [(qf, .inr (2, [])), (qr, .inr (5, [.int (nI n), .int (nI d), .int (nI rn), .long lo, .long hi, .long sl, .long sh, .ref qc, .ref qs]))] s.heap := hP
  have hw2 : n * bln (uN (hi - lo)) ≤ 1024 * 64 := Nat.mul_le_mul hn (bln64 _)
  refine lv_bipush (v := nI 72) hx hb dPa_weigh_0 (by decide) ?_
  refine lv_aload_n hx hb dPa_weigh_2 rfl (lv_at hl 1 rfl) ?_
  refine va_get (D := D) (ci := 5) (v := .int (nI n)) (C := "ColumnForms$Row") (T := TRo) (N := 9) hx hb hts inRo hown hK hP 1 rfl rfl 0 (by decide) (hts _ tw_36) (fun _ h9 => h9) rfl dPa_weigh_3 ?_
  refine lv_aload_n hx hb dPa_weigh_6 rfl (lv_at hl 1 rfl) ?_
  refine kc_i (wc := [(qr, .inr (5, [.int (nI n), .int (nI d), .int (nI rn), .long lo, .long hi, .long sl, .long sh, .ref qc, .ref qs]))]) (wr := [(qf, .inr (2, []))]) hP hD hS hA [1] [0] rfl rfl (by decide) (by decide) (by decide) (fun hPc hDc => va_runS (As := [.ref qr]) (rest := [.int (nI n), .int (nI 72)]) ⟨hx, hb, hml, hown, hts⟩ (c_paO l D cJ cB cI cF qr n d rn lo hi sl sh qc qs _) (va_cwS 1 hts (wsG_k tw_349 (wsG_k tw_350 (wsG_k tw_6 (wsG_c tw_351)))) rfl rfl rfl (by decide +kernel) ⟨Nat.le_of_ble_eq_true rfl, Nat.le_of_ble_eq_true rfl⟩) ⟨cf_blind, cf_pre hPc hK hDc hWd⟩ rfl rfl hl.1 rfl (lv_room (Nat.le_of_ble_eq_true rfl)) dPa_weigh_7 ⟨Nat.le_of_ble_eq_true rfl, Nat.le_of_ble_eq_true rfl⟩) (fun r u H locs hw hP hD hS => ?_)
  obtain ⟨rfl, -⟩ := hw
  have hP : va_P D vwCl [(qf, .inr (2, [])), (qr, .inr (5, [.int (nI n), .int (nI d), .int (nI rn), .long lo, .long hi, .long sl, .long sh, .ref qc, .ref qs]))] H := hP
  have hD : va_D A [(qf, .inr (2, [])), (qr, .inr (5, [.int (nI n), .int (nI d), .int (nI rn), .long lo, .long hi, .long sl, .long sh, .ref qc, .ref qs]))] := hD
  refine lv_imul hx hb dPa_weigh_10 ?_
  refine tp_i (show ((nI n) * (nI (bln (uN (hi - lo))))) = (nI (n * (bln (uN (hi - lo))))) from pk_mul _ _) ?_
  refine lv_iadd hx hb dPa_weigh_11 ?_
  refine tp_i (show ((nI 72) + (nI (n * (bln (uN (hi - lo)))))) = (nI (72 + (n * (bln (uN (hi - lo)))))) from nI_add _ _) ?_
  refine kc_i (wc := []) (wr := [(qf, .inr (2, [])), (qr, .inr (5, [.int (nI n), .int (nI d), .int (nI rn), .long lo, .long hi, .long sl, .long sh, .ref qc, .ref qs]))]) hP hD hS hA [] [0, 1] rfl rfl (by decide) (by decide) (by decide) (fun hPc hDc => va_runSN (As := [.int (nI (72 + (n * (bln (uN (hi - lo))))))]) (rest := []) ⟨hx, hb, hml, hown, hts⟩ (c_whole l D cJ cB cI cF (72 + (n * (bln (uN (hi - lo))))) _ (by omega)) (⟨va_cnB 1 hts (wsG_c tw_173) rfl rfl rfl (hWd.nest 16 rfl) (hts _ tw_1) (by decide +kernel) ⟨Nat.le_of_ble_eq_true rfl, Nat.le_of_ble_eq_true rfl⟩, hts _ tw_172, trivial⟩) ⟨cf_blind, cf_pre hPc hK hDc hWd⟩ rfl rfl hl.1 rfl (lv_room (Nat.le_of_ble_eq_true rfl)) dPa_weigh_12 ⟨Nat.le_of_ble_eq_true rfl, Nat.le_of_ble_eq_true rfl⟩) (fun r u H locs hw hP hD hS => ?_)
  obtain ⟨rfl, -⟩ := hw
  have hP : va_P D vwCl [(qf, .inr (2, [])), (qr, .inr (5, [.int (nI n), .int (nI d), .int (nI rn), .long lo, .long hi, .long sl, .long sh, .ref qc, .ref qs]))] H := hP
  have hD : va_D A [(qf, .inr (2, [])), (qr, .inr (5, [.int (nI n), .int (nI d), .int (nI rn), .long lo, .long hi, .long sl, .long sh, .ref qc, .ref qs]))] := hD
  exact hret (nI (((72 + (n * (bln (uN (hi - lo))))) + 7) / 8)) () _ _ _ _ _ _ ⟨rfl, trivial⟩ (hP.sub [0, 1] rfl) (hD.sub [0, 1] (by decide) rfl) hS (Nat.le_of_ble_eq_true rfl) (Nat.le_of_ble_eq_true rfl) dPa_weigh_15

set_option maxHeartbeats 4000000 in
set_option maxRecDepth 100000 in
theorem c_paL (l : Launch) (D : va_G) (cJ cB cI cF : ClassId) (qf : Nat) (qr : Nat) (n : Nat) (d : Nat) (rn : Nat) (lo : Int64) (hi : Int64) (sl : Int64) (sh : Int64) (qc : Nat) (qs : Nat) (xs : Nat → Int64) (rs : Nat → Int64) (qb : Nat) (qo : Nat) (o : Nat → Int32) (sz : Nat) (hR : rAll xs n d rn lo hi sl sh rs) (hn0 : 0 < n) : Met l yPa_lay (Cond.code yPa_lay cPa_lay 5 none :: wsG) ({ frames := 4, cells := 0, slots := 0, locals := 84 }) (va_Pc [.ref qf, .ref qr, .ref qb] (cfPre D (cfT cJ cB cI cF) [(qf, .inr (2, [])), (qr, .inr (5, [.int (nI n), .int (nI d), .int (nI rn), .long lo, .long hi, .long sl, .long sh, .ref qc, .ref qs])), (qc, .inl (cJ, 1024, .inr (.inl xs))), (qb, .inr (0, [.ref qo, .int (nI 0)])), (qo, .inl (cB, 10242, .inl o))] sz)) (va_Qv (fun (u : Nat × (Nat → Int32) × (Nat → Bool)) => (oB u.2.1 u.1 u.2.2) ∧ (lK xs n u.1 u.2.2) ∧ (u.1 ≤ 81936) ∧ True) (fun u t => cfPost D ((fun (u : Nat × (Nat → Int32) × (Nat → Bool)) => [(qf, .inr (2, [])), (qr, .inr (5, [.int (nI n), .int (nI d), .int (nI rn), .long lo, .long hi, .long sl, .long sh, .ref qc, .ref qs])), (qc, .inl (cJ, 1024, .inr (.inl xs))), (qb, .inr (0, [.ref qo, .int (nI u.1)])), (qo, .inl (cB, 10242, .inl u.2.1))]) u) (va_A [(qf, .inr (2, [])), (qr, .inr (5, [.int (nI n), .int (nI d), .int (nI rn), .long lo, .long hi, .long sl, .long sh, .ref qc, .ref qs])), (qc, .inl (cJ, 1024, .inr (.inl xs))), (qb, .inr (0, [.ref qo, .int (nI 0)])), (qo, .inl (cB, 10242, .inl o))] sz) t) (va_A [(qf, .inr (2, [])), (qr, .inr (5, [.int (nI n), .int (nI d), .int (nI rn), .long lo, .long hi, .long sl, .long sh, .ref qc, .ref qs])), (qc, .inl (cJ, 1024, .inr (.inl xs))), (qb, .inr (0, [.ref qo, .int (nI 0)])), (qo, .inl (cB, 10242, .inl o))] sz)) 0 0 (va_A [(qf, .inr (2, [])), (qr, .inr (5, [.int (nI n), .int (nI d), .int (nI rn), .long lo, .long hi, .long sl, .long sh, .ref qc, .ref qs])), (qc, .inl (cJ, 1024, .inr (.inl xs))), (qb, .inr (0, [.ref qo, .int (nI 0)])), (qo, .inl (cB, 10242, .inl o))] sz) := by
  refine met_v (cc := cPa_lay) (maxL := 5) (S := Nat × (Nat → Int32) × (Nat → Bool)) (D := D) (wO := fun (u : Nat × (Nat → Int32) × (Nat → Bool)) => [(qf, .inr (2, [])), (qr, .inr (5, [.int (nI n), .int (nI d), .int (nI rn), .long lo, .long hi, .long sl, .long sh, .ref qc, .ref qs])), (qc, .inl (cJ, 1024, .inr (.inl xs))), (qb, .inr (0, [.ref qo, .int (nI u.1)])), (qo, .inl (cB, 10242, .inl u.2.1))]) (by decide) (Nat.le_of_ble_eq_true rfl) ?_
  intro p e s m below meth c hx hb hml hown hts hlocks hin hWd A hA hsz hP hK hD hS Q hret ls hl
  have hown : s.vm.findClass "ColumnForms$Packed" = some m.cls := hown
  have hl : lv_has ls 5 [(0, .ref qf), (1, .ref qr), (2, .ref qb)] := hl
  have hP : va_P D vwCl [(qf, .inr (2, [])), (qr, .inr (5, [.int (nI n), .int (nI d), .int (nI rn), .long lo, .long hi, .long sl, .long sh, .ref qc, .ref qs])), (qc, .inl (cJ, 1024, .inr (.inl xs))), (qb, .inr (0, [.ref qo, .int (nI 0)])), (qo, .inl (cB, 10242, .inl o))] s.heap := hP
  have hn := hR.1
  have hR4 := hR.2.2.2 hn0
  refine lv_aload_n hx hb dPa_lay_0 rfl (lv_at hl 1 rfl) ?_
  refine kc_i (wc := [(qr, .inr (5, [.int (nI n), .int (nI d), .int (nI rn), .long lo, .long hi, .long sl, .long sh, .ref qc, .ref qs]))]) (wr := [(qf, .inr (2, [])), (qc, .inl (cJ, 1024, .inr (.inl xs))), (qb, .inr (0, [.ref qo, .int (nI 0)])), (qo, .inl (cB, 10242, .inl o))]) hP hD hS hA [1] [0, 2, 3, 4] rfl rfl (by decide) (by decide) (by decide) (fun hPc hDc => va_runS (As := [.ref qr]) (rest := []) ⟨hx, hb, hml, hown, hts⟩ (c_paO l D cJ cB cI cF qr n d rn lo hi sl sh qc qs _) (va_cwS 1 hts (wsG_k tw_349 (wsG_k tw_350 (wsG_k tw_6 (wsG_c tw_351)))) rfl rfl rfl (by decide +kernel) ⟨Nat.le_of_ble_eq_true rfl, Nat.le_of_ble_eq_true rfl⟩) ⟨cf_blind, cf_pre hPc hK hDc hWd⟩ rfl rfl hl.1 rfl (lv_room (Nat.le_of_ble_eq_true rfl)) dPa_lay_1 ⟨Nat.le_of_ble_eq_true rfl, Nat.le_of_ble_eq_true rfl⟩) (fun r u H locs hw hP hD hS => ?_)
  obtain ⟨rfl, -⟩ := hw
  have hP : va_P D vwCl [(qf, .inr (2, [])), (qc, .inl (cJ, 1024, .inr (.inl xs))), (qb, .inr (0, [.ref qo, .int (nI 0)])), (qo, .inl (cB, 10242, .inl o)), (qr, .inr (5, [.int (nI n), .int (nI d), .int (nI rn), .long lo, .long hi, .long sl, .long sh, .ref qc, .ref qs]))] H := hP
  have hD : va_D A [(qf, .inr (2, [])), (qc, .inl (cJ, 1024, .inr (.inl xs))), (qb, .inr (0, [.ref qo, .int (nI 0)])), (qo, .inl (cB, 10242, .inl o)), (qr, .inr (5, [.int (nI n), .int (nI d), .int (nI rn), .long lo, .long hi, .long sl, .long sh, .ref qc, .ref qs]))] := hD
  obtain ⟨wd, hwd⟩ : ∃ z, z = bln (uN (hi - lo)) := ⟨_, rfl⟩
  have hw1 : wd ≤ 64 := by rw [hwd]; exact bln64 _
  refine tp_i (show (nI (bln (uN (hi - lo)))) = (nI wd) from congrArg nI hwd.symm) ?_
  refine lv_istore_n (lv' := [(3, .int (nI wd)), (0, .ref qf), (1, .ref qr), (2, .ref qb)]) hx hb dPa_lay_4 rfl hl (by decide) rfl (fun ls hl => ?_)
  refine lv_aload_n hx hb dPa_lay_5 rfl (lv_at hl 3 rfl) ?_
  refine lv_aload_n hx hb dPa_lay_6 rfl (lv_at hl 2 rfl) ?_
  refine va_get (D := D) (ci := 5) (v := .long lo) (C := "ColumnForms$Row") (T := TRo) (N := 9) hx hb hts inRo hown hK hP 4 rfl rfl 3 (by decide) (hts _ tw_47) (fun _ h9 => h9) rfl dPa_lay_7 ?_
  refine lv_bipush (v := nI 64) hx hb dPa_lay_10 (by decide) ?_
  refine kc_v (wc := [(qb, .inr (0, [.ref qo, .int (nI 0)])), (qo, .inl (cB, 10242, .inl o))]) (wr := [(qf, .inr (2, [])), (qc, .inl (cJ, 1024, .inr (.inl xs))), (qr, .inr (5, [.int (nI n), .int (nI d), .int (nI rn), .long lo, .long hi, .long sl, .long sh, .ref qc, .ref qs]))]) hP hD hS hA [2, 3] [0, 1, 4] rfl rfl (by decide) (by decide) (by decide) (fun hPc hDc => va_runV (As := [.long lo, .int (nI 64)]) (rest := []) ⟨hx, hb, hml, hown, hts⟩ (c_append l D cJ cB cI cF qb qo 0 o (fun _ => false) lo 64 _ (oB_0 o _) (by omega) (by omega)) (cwV 2 hts (wsG_k tw_411 (wsG_k tw_395 (wsG_k tw_396 (wsG_k tw_3 (wsG_c tw_397))))) rfl rfl rfl (by decide +kernel) ⟨Nat.le_of_ble_eq_true rfl, Nat.le_of_ble_eq_true rfl⟩) ⟨cf_blind, va_recv hK hPc (ci := 0) (q0 := 0) rfl rfl, cf_pre hPc hK hDc hWd⟩ rfl rfl hl.1 rfl (lv_room (Nat.le_of_ble_eq_true rfl)) dPa_lay_12 ⟨Nat.le_of_ble_eq_true rfl, Nat.le_of_ble_eq_true rfl⟩) (fun u H locs hw hP hD hS => ?_)
  obtain ⟨o2_1, rfl⟩ : ∃ z, z = u := ⟨u, rfl⟩
  obtain ⟨e1, -⟩ := hw
  have e1 : oB o2_1 (0 + 64) (bA (fun _ => false) 0 lo 64) := e1
  have hP : va_P D vwCl [(qf, .inr (2, [])), (qc, .inl (cJ, 1024, .inr (.inl xs))), (qr, .inr (5, [.int (nI n), .int (nI d), .int (nI rn), .long lo, .long hi, .long sl, .long sh, .ref qc, .ref qs])), (qb, .inr (0, [.ref qo, .int (nI (0 + 64))])), (qo, .inl (cB, 10242, .inl o2_1))] H := hP
  have hD : va_D A [(qf, .inr (2, [])), (qc, .inl (cJ, 1024, .inr (.inl xs))), (qr, .inr (5, [.int (nI n), .int (nI d), .int (nI rn), .long lo, .long hi, .long sl, .long sh, .ref qc, .ref qs])), (qb, .inr (0, [.ref qo, .int (nI (0 + 64))])), (qo, .inl (cB, 10242, .inl o2_1))] := hD
  refine lv_aload_n hx hb dPa_lay_15 rfl (lv_at hl 3 rfl) ?_
  refine lv_iload_n hx hb dPa_lay_16 rfl (lv_at hl 0 rfl) ?_
  refine lv_i2l hx hb dPa_lay_17 rfl ?_
  refine tp_l (show ((nI wd).toInt64) = (lN wd) from nI_l (by omega)) ?_
  refine lv_bipush (v := nI 8) hx hb dPa_lay_18 (by decide) ?_
  refine kc_v (wc := [(qb, .inr (0, [.ref qo, .int (nI (0 + 64))])), (qo, .inl (cB, 10242, .inl o2_1))]) (wr := [(qf, .inr (2, [])), (qc, .inl (cJ, 1024, .inr (.inl xs))), (qr, .inr (5, [.int (nI n), .int (nI d), .int (nI rn), .long lo, .long hi, .long sl, .long sh, .ref qc, .ref qs]))]) hP hD hS hA [3, 4] [0, 1, 2] rfl rfl (by decide) (by decide) (by decide) (fun hPc hDc => va_runV (As := [.long (lN wd), .int (nI 8)]) (rest := []) ⟨hx, hb, hml, hown, hts⟩ (c_append l D cJ cB cI cF qb qo (0 + 64) o2_1 (bA (fun _ => false) 0 lo 64) (lN wd) 8 _ (e1) (by omega) (by omega)) (cwV 2 hts (wsG_k tw_411 (wsG_k tw_395 (wsG_k tw_396 (wsG_k tw_3 (wsG_c tw_397))))) rfl rfl rfl (by decide +kernel) ⟨Nat.le_of_ble_eq_true rfl, Nat.le_of_ble_eq_true rfl⟩) ⟨cf_blind, va_recv hK hPc (ci := 0) (q0 := 0) rfl rfl, cf_pre hPc hK hDc hWd⟩ rfl rfl hl.1 rfl (lv_room (Nat.le_of_ble_eq_true rfl)) dPa_lay_20 ⟨Nat.le_of_ble_eq_true rfl, Nat.le_of_ble_eq_true rfl⟩) (fun u H locs hw hP hD hS => ?_)
  obtain ⟨o2_2, rfl⟩ : ∃ z, z = u := ⟨u, rfl⟩
  obtain ⟨e2, -⟩ := hw
  have e2 : oB o2_2 ((0 + 64) + 8) (bA (bA (fun _ => false) 0 lo 64) (0 + 64) (lN wd) 8) := e2
  have hP : va_P D vwCl [(qf, .inr (2, [])), (qc, .inl (cJ, 1024, .inr (.inl xs))), (qr, .inr (5, [.int (nI n), .int (nI d), .int (nI rn), .long lo, .long hi, .long sl, .long sh, .ref qc, .ref qs])), (qb, .inr (0, [.ref qo, .int (nI ((0 + 64) + 8))])), (qo, .inl (cB, 10242, .inl o2_2))] H := hP
  have hD : va_D A [(qf, .inr (2, [])), (qc, .inl (cJ, 1024, .inr (.inl xs))), (qr, .inr (5, [.int (nI n), .int (nI d), .int (nI rn), .long lo, .long hi, .long sl, .long sh, .ref qc, .ref qs])), (qb, .inr (0, [.ref qo, .int (nI ((0 + 64) + 8))])), (qo, .inl (cB, 10242, .inl o2_2))] := hD
  refine lv_iconst (v := nI 0) hx hb dPa_lay_23 (by decide) ?_
  refine lv_istore (lv' := [(4, .int (nI 0)), (3, .int (nI wd)), (0, .ref qf), (1, .ref qr), (2, .ref qb)]) hx hb dPa_lay_24 hl (by decide) rfl (fun ls hl => ?_)
  have lp : ∀ (k_lp : Nat) (i : Nat) (bq : Nat) (o1 : Nat → Int32) (B1 : Nat → Bool), (i ≤ n) → (bq = 72 + i * wd) → (oB o1 bq B1) → (fld B1 0 64 lo) → (fld B1 64 8 (lN wd)) → (∀ j, j < i → fld B1 (72 + j * wd) wd (xs j - lo)) → (n - i < k_lp) → ∀ (H : Heap) (locs : List Loc) (ls : Array Slot), va_P D vwCl [(qf, .inr (2, [])), (qr, .inr (5, [.int (nI n), .int (nI d), .int (nI rn), .long lo, .long hi, .long sl, .long sh, .ref qc, .ref qs])), (qc, .inl (cJ, 1024, .inr (.inl xs))), (qb, .inr (0, [.ref qo, .int (nI bq)])), (qo, .inl (cB, 10242, .inl o1))] H → va_D A [(qf, .inr (2, [])), (qr, .inr (5, [.int (nI n), .int (nI d), .int (nI rn), .long lo, .long hi, .long sl, .long sh, .ref qc, .ref qs])), (qc, .inl (cJ, 1024, .inr (.inl xs))), (qb, .inr (0, [.ref qo, .int (nI bq)])), (qo, .inl (cB, 10242, .inl o1))] → va_S A s.heap H locs → lv_has ls 5 [(0, .ref qf), (1, .ref qr), (2, .ref qb), (3, .int (nI wd)), (4, .int (nI i))] → W p l e ({ frames := 4, cells := 0, slots := 0, locals := 84 }) s m ([.ref qf, .ref qr, .ref qb].toArray) below meth c H locs (0) (0) Q (F0 m 26 ls []) := by
    intro k_lp
    induction k_lp with
    | zero => intro i bq o1 B1 g1 g2 g3 g4 g5 g6 hfu; exact absurd hfu (by omega)
    | succ k_lp ih_lp =>
      intro i bq o1 B1 g1 g2 g3 g4 g5 g6 hfu H locs ls hP hD hS hl
      have hm : i * wd ≤ 1024 * 64 := Nat.mul_le_mul (by omega) hw1
      refine lv_iload hx hb dPa_lay_26 (lv_at hl 4 rfl) ?_
      refine lv_aload_n hx hb dPa_lay_28 rfl (lv_at hl 1 rfl) ?_
      refine va_get (D := D) (ci := 5) (v := .int (nI n)) (C := "ColumnForms$Row") (T := TRo) (N := 9) hx hb hts inRo hown hK hP 1 rfl rfl 0 (by decide) (hts _ tw_36) (fun _ h9 => h9) rfl dPa_lay_29 ?_
      refine lv_icmp_ge (tgt := 57) hx hb dPa_lay_32 (by decide) (fun c32 => ?_) (fun c32 => ?_)
      · have c32 : n ≤ i := (nI_leI (by omega) (by omega)).mp c32
        exact hret (bq, o1, B1) _ _ _ _ _ _ ⟨g3, lK_of hR4.1 hR4.2.1 hwd (by have e : i = n := (by omega); rw [← e]; exact g2) g4 g5 (fun j hj => g6 j (by omega)), by show bq ≤ _; omega, trivial⟩ (hP.sub [0, 1, 2, 3, 4] rfl) (hD.sub [0, 1, 2, 3, 4] (by decide) rfl) hS (Nat.le_of_ble_eq_true rfl) (Nat.le_of_ble_eq_true rfl) dPa_lay_57
      · have c32 : ¬ n ≤ i := fun h => c32 ((nI_leI (by omega) (by omega)).mpr h)
        refine lv_aload_n hx hb dPa_lay_35 rfl (lv_at hl 2 rfl) ?_
        refine lv_aload_n hx hb dPa_lay_36 rfl (lv_at hl 1 rfl) ?_
        refine lv_iload hx hb dPa_lay_37 (lv_at hl 4 rfl) ?_
        refine kc_l (wc := [(qr, .inr (5, [.int (nI n), .int (nI d), .int (nI rn), .long lo, .long hi, .long sl, .long sh, .ref qc, .ref qs])), (qc, .inl (cJ, 1024, .inr (.inl xs)))]) (wr := [(qf, .inr (2, [])), (qb, .inr (0, [.ref qo, .int (nI bq)])), (qo, .inl (cB, 10242, .inl o1))]) hP hD hS hA [1, 2] [0, 3, 4] rfl rfl (by decide) (by decide) (by decide) (fun hPc hDc => va_runV (As := [.int (nI i)]) (rest := [.ref qb]) ⟨hx, hb, hml, hown, hts⟩ (c_at l D cJ cB cI cF qr n d rn lo hi sl sh qc qs xs i _ (by omega) (by omega)) (cwV 1 hts (wsG_k tw_412 (wsG_k tw_257 (wsG_k tw_258 (wsG_k tw_2 (wsG_c tw_259))))) rfl rfl rfl (by decide +kernel) ⟨Nat.le_of_ble_eq_true rfl, Nat.le_of_ble_eq_true rfl⟩) ⟨cf_blind, va_recv hK hPc (ci := 5) (q0 := 0) rfl rfl, cf_pre hPc hK hDc hWd⟩ rfl rfl hl.1 rfl (lv_room (Nat.le_of_ble_eq_true rfl)) dPa_lay_39 ⟨Nat.le_of_ble_eq_true rfl, Nat.le_of_ble_eq_true rfl⟩) (fun r u H locs hw hP hD hS => ?_)
        obtain ⟨rfl, -⟩ := hw
        have hP : va_P D vwCl [(qf, .inr (2, [])), (qb, .inr (0, [.ref qo, .int (nI bq)])), (qo, .inl (cB, 10242, .inl o1)), (qr, .inr (5, [.int (nI n), .int (nI d), .int (nI rn), .long lo, .long hi, .long sl, .long sh, .ref qc, .ref qs])), (qc, .inl (cJ, 1024, .inr (.inl xs)))] H := hP
        have hD : va_D A [(qf, .inr (2, [])), (qb, .inr (0, [.ref qo, .int (nI bq)])), (qo, .inl (cB, 10242, .inl o1)), (qr, .inr (5, [.int (nI n), .int (nI d), .int (nI rn), .long lo, .long hi, .long sl, .long sh, .ref qc, .ref qs])), (qc, .inl (cJ, 1024, .inr (.inl xs)))] := hD
        refine lv_aload_n hx hb dPa_lay_42 rfl (lv_at hl 1 rfl) ?_
        refine va_get (D := D) (ci := 5) (v := .long lo) (C := "ColumnForms$Row") (T := TRo) (N := 9) hx hb hts inRo hown hK hP 3 rfl rfl 3 (by decide) (hts _ tw_47) (fun _ h9 => h9) rfl dPa_lay_43 ?_
        refine lv_lsub hx hb dPa_lay_46 ?_
        refine lv_iload_n hx hb dPa_lay_47 rfl (lv_at hl 3 rfl) ?_
        refine kc_v (wc := [(qb, .inr (0, [.ref qo, .int (nI bq)])), (qo, .inl (cB, 10242, .inl o1))]) (wr := [(qf, .inr (2, [])), (qr, .inr (5, [.int (nI n), .int (nI d), .int (nI rn), .long lo, .long hi, .long sl, .long sh, .ref qc, .ref qs])), (qc, .inl (cJ, 1024, .inr (.inl xs)))]) hP hD hS hA [1, 2] [0, 3, 4] rfl rfl (by decide) (by decide) (by decide) (fun hPc hDc => va_runV (As := [.long ((xs i) - lo), .int (nI wd)]) (rest := []) ⟨hx, hb, hml, hown, hts⟩ (c_append l D cJ cB cI cF qb qo bq o1 B1 ((xs i) - lo) wd _ (g3) (hw1) (by omega)) (cwV 2 hts (wsG_k tw_411 (wsG_k tw_395 (wsG_k tw_396 (wsG_k tw_3 (wsG_c tw_397))))) rfl rfl rfl (by decide +kernel) ⟨Nat.le_of_ble_eq_true rfl, Nat.le_of_ble_eq_true rfl⟩) ⟨cf_blind, va_recv hK hPc (ci := 0) (q0 := 0) rfl rfl, cf_pre hPc hK hDc hWd⟩ rfl rfl hl.1 rfl (lv_room (Nat.le_of_ble_eq_true rfl)) dPa_lay_48 ⟨Nat.le_of_ble_eq_true rfl, Nat.le_of_ble_eq_true rfl⟩) (fun u H locs hw hP hD hS => ?_)
        obtain ⟨o2_3, rfl⟩ : ∃ z, z = u := ⟨u, rfl⟩
        obtain ⟨f9, -⟩ := hw
        have f9 : oB o2_3 (bq + wd) (bA B1 bq ((xs i) - lo) wd) := f9
        have hP : va_P D vwCl [(qf, .inr (2, [])), (qr, .inr (5, [.int (nI n), .int (nI d), .int (nI rn), .long lo, .long hi, .long sl, .long sh, .ref qc, .ref qs])), (qc, .inl (cJ, 1024, .inr (.inl xs))), (qb, .inr (0, [.ref qo, .int (nI (bq + wd))])), (qo, .inl (cB, 10242, .inl o2_3))] H := hP
        have hD : va_D A [(qf, .inr (2, [])), (qr, .inr (5, [.int (nI n), .int (nI d), .int (nI rn), .long lo, .long hi, .long sl, .long sh, .ref qc, .ref qs])), (qc, .inl (cJ, 1024, .inr (.inl xs))), (qb, .inr (0, [.ref qo, .int (nI (bq + wd))])), (qo, .inl (cB, 10242, .inl o2_3))] := hD
        refine lv_iinc (v := nI (i + 1)) (lv' := [(4, .int (nI (i + 1))), (0, .ref qf), (1, .ref qr), (2, .ref qb), (3, .int (nI wd))]) hx hb dPa_lay_51 hl (k := 4) rfl (by rw [show (Int32.ofInt 1) = nI 1 from by decide]; exact nI_add _ _) (by decide) rfl (fun ls hl => ?_)
        refine lv_goto (tgt := 26) hx hb dPa_lay_54 (by decide) ?_
        exact ih_lp (i + 1) (bq + wd) o2_3 (bA B1 bq (xs i - lo) wd) (by omega) (by rw [Nat.succ_mul i wd]; omega) (f9) (fld_keep g4 (by omega)) (fld_keep g5 (by omega)) (fld_add (a := fun j => 72 + j * wd) (wd := fun _ => wd) (vl := fun j => xs j - lo) g6 (fun j hj => by have := mul_lo (w := wd) hj; show 72 + j * wd + wd ≤ bq; omega) (by show 72 + i * wd = bq; omega) rfl rfl) (by omega) _ _ _ (hP.sub [0, 1, 2, 3, 4] rfl) (hD.sub [0, 1, 2, 3, 4] (by decide) rfl) hS (lv_sub hl [1, 2, 3, 4, 0] rfl)
  exact lp (n - 0 + 1) 0 ((0 + 64) + 8) o2_2 (bA (bA (fun _ => false) 0 lo 64) (0 + 64) (lN wd) 8) (Nat.zero_le n) (by omega) (e2) (fld_keep (bA_fld _ _ _ _) (by omega)) (bA_fld _ _ _ _) (fun j hj => absurd hj (by omega)) (by omega) _ _ _ (hP.sub [0, 2, 1, 3, 4] rfl) (hD.sub [0, 2, 1, 3, 4] (by decide) rfl) hS (lv_sub hl [2, 3, 4, 1, 0] rfl)

set_option maxHeartbeats 4000000 in
set_option maxRecDepth 100000 in
theorem c_paR (l : Launch) (D : va_G) (cJ cB cI cF : ClassId) (qf : Nat) (qb : Nat) (qo : Nat) (bc : Nat) (o : Nat → Int32) (B : Nat → Bool) (xs : Nat → Int64) (n : Nat) (i : Nat) (sz : Nat) (hc : oB o bc B) (hbm : bc ≤ 81936) (hn : n ≤ 1024) (hL : lK xs n bc B) (hi1 : i < n) : Met l yPa_read (Cond.code yPa_read cPa_read 4 (some .long) :: wsG) ({ frames := 2, cells := 0, slots := 0, locals := 51 }) (va_Pc [.ref qf, .ref qb, .int (nI i)] (cfPre D (cfT cJ cB cI cF) [(qf, .inr (2, [])), (qb, .inr (0, [.ref qo, .int (nI bc)])), (qo, .inl (cB, 10242, .inl o))] sz)) (va_Ql (fun (r : Int64) (u : Unit) => r = xs i ∧ True) (fun u t => cfPost D ((fun (u : Unit) => [(qf, .inr (2, [])), (qb, .inr (0, [.ref qo, .int (nI bc)])), (qo, .inl (cB, 10242, .inl o))]) u) (va_A [(qf, .inr (2, [])), (qb, .inr (0, [.ref qo, .int (nI bc)])), (qo, .inl (cB, 10242, .inl o))] sz) t) (va_A [(qf, .inr (2, [])), (qb, .inr (0, [.ref qo, .int (nI bc)])), (qo, .inl (cB, 10242, .inl o))] sz)) 0 0 (va_A [(qf, .inr (2, [])), (qb, .inr (0, [.ref qo, .int (nI bc)])), (qo, .inl (cB, 10242, .inl o))] sz) := by
  refine met_l (cc := cPa_read) (maxL := 4) (S := Unit) (D := D) (wO := fun (u : Unit) => [(qf, .inr (2, [])), (qb, .inr (0, [.ref qo, .int (nI bc)])), (qo, .inl (cB, 10242, .inl o))]) (by decide) (Nat.le_of_ble_eq_true rfl) ?_
  intro p e s m below meth c hx hb hml hown hts hlocks hin hWd A hA hsz hP hK hD hS Q hret ls hl
  have hown : s.vm.findClass "ColumnForms$Packed" = some m.cls := hown
  have hl : lv_has ls 4 [(0, .ref qf), (1, .ref qb), (2, .int (nI i))] := hl
  have hP : va_P D vwCl [(qf, .inr (2, [])), (qb, .inr (0, [.ref qo, .int (nI bc)])), (qo, .inl (cB, 10242, .inl o))] s.heap := hP
  have k1 := hL.1
  have k2 := hL.2.1
  have k3 := hL.2.2.1
  have k4 := hL.2.2.2
  have hw1 := wP_le xs n
  have hm0 : n * wP xs n ≤ 1024 * 64 := Nat.mul_le_mul hn hw1
  have hm := mul_lo (w := wP xs n) hi1
  refine lv_aload_n hx hb dPa_read_0 rfl (lv_at hl 1 rfl) ?_
  refine lv_bipush (v := nI 64) hx hb dPa_read_1 (by decide) ?_
  refine lv_bipush (v := nI 8) hx hb dPa_read_3 (by decide) ?_
  refine kc_l (wc := [(qb, .inr (0, [.ref qo, .int (nI bc)])), (qo, .inl (cB, 10242, .inl o))]) (wr := [(qf, .inr (2, []))]) hP hD hS hA [1, 2] [0] rfl rfl (by decide) (by decide) (by decide) (fun hPc hDc => va_runV (As := [.int (nI 64), .int (nI 8)]) (rest := []) ⟨hx, hb, hml, hown, hts⟩ (c_bitsAt l D cJ cB cI cF qb qo bc o B 64 8 (lN (wP xs n)) _ (hc) (hbm) (by omega) (by omega) (k3) (lN_small (Nat.lt_of_le_of_lt hw1 (by decide)) (by omega))) (cwV 2 hts (wsG_k tw_475 (wsG_k tw_465 (wsG_k tw_466 (wsG_k tw_3 (wsG_c tw_467))))) rfl rfl rfl (by decide +kernel) ⟨Nat.le_of_ble_eq_true rfl, Nat.le_of_ble_eq_true rfl⟩) ⟨cf_blind, va_recv hK hPc (ci := 0) (q0 := 0) rfl rfl, cf_pre hPc hK hDc hWd⟩ rfl rfl hl.1 rfl (lv_room (Nat.le_of_ble_eq_true rfl)) dPa_read_5 ⟨Nat.le_of_ble_eq_true rfl, Nat.le_of_ble_eq_true rfl⟩) (fun r u H locs hw hP hD hS => ?_)
  obtain ⟨rfl, -⟩ := hw
  have hP : va_P D vwCl [(qf, .inr (2, [])), (qb, .inr (0, [.ref qo, .int (nI bc)])), (qo, .inl (cB, 10242, .inl o))] H := hP
  have hD : va_D A [(qf, .inr (2, [])), (qb, .inr (0, [.ref qo, .int (nI bc)])), (qo, .inl (cB, 10242, .inl o))] := hD
  refine lv_l2i hx hb dPa_read_8 rfl ?_
  refine tp_i (show ((lN (wP xs n)).toInt32) = (nI (wP xs n)) from lN_i _) ?_
  refine lv_istore_n (lv' := [(3, .int (nI (wP xs n))), (0, .ref qf), (1, .ref qb), (2, .int (nI i))]) hx hb dPa_read_9 rfl hl (by decide) rfl (fun ls hl => ?_)
  refine lv_aload_n hx hb dPa_read_10 rfl (lv_at hl 2 rfl) ?_
  refine lv_iconst (v := nI 0) hx hb dPa_read_11 (by decide) ?_
  refine lv_bipush (v := nI 64) hx hb dPa_read_12 (by decide) ?_
  refine kc_l (wc := [(qb, .inr (0, [.ref qo, .int (nI bc)])), (qo, .inl (cB, 10242, .inl o))]) (wr := [(qf, .inr (2, []))]) hP hD hS hA [1, 2] [0] rfl rfl (by decide) (by decide) (by decide) (fun hPc hDc => va_runV (As := [.int (nI 0), .int (nI 64)]) (rest := []) ⟨hx, hb, hml, hown, hts⟩ (c_bitsAt l D cJ cB cI cF qb qo bc o B 0 64 (rLo xs n) _ (hc) (hbm) (by omega) (by omega) (k2) (bL_64)) (cwV 2 hts (wsG_k tw_475 (wsG_k tw_465 (wsG_k tw_466 (wsG_k tw_3 (wsG_c tw_467))))) rfl rfl rfl (by decide +kernel) ⟨Nat.le_of_ble_eq_true rfl, Nat.le_of_ble_eq_true rfl⟩) ⟨cf_blind, va_recv hK hPc (ci := 0) (q0 := 0) rfl rfl, cf_pre hPc hK hDc hWd⟩ rfl rfl hl.1 rfl (lv_room (Nat.le_of_ble_eq_true rfl)) dPa_read_14 ⟨Nat.le_of_ble_eq_true rfl, Nat.le_of_ble_eq_true rfl⟩) (fun r u H locs hw hP hD hS => ?_)
  obtain ⟨rfl, -⟩ := hw
  have hP : va_P D vwCl [(qf, .inr (2, [])), (qb, .inr (0, [.ref qo, .int (nI bc)])), (qo, .inl (cB, 10242, .inl o))] H := hP
  have hD : va_D A [(qf, .inr (2, [])), (qb, .inr (0, [.ref qo, .int (nI bc)])), (qo, .inl (cB, 10242, .inl o))] := hD
  refine lv_aload_n hx hb dPa_read_17 rfl (lv_at hl 2 rfl) ?_
  refine lv_bipush (v := nI 72) hx hb dPa_read_18 (by decide) ?_
  refine lv_iload_n hx hb dPa_read_20 rfl (lv_at hl 3 rfl) ?_
  refine lv_iload_n hx hb dPa_read_21 rfl (lv_at hl 0 rfl) ?_
  refine lv_imul hx hb dPa_read_22 ?_
  refine tp_i (show ((nI i) * (nI (wP xs n))) = (nI (i * (wP xs n))) from pk_mul _ _) ?_
  refine lv_iadd hx hb dPa_read_23 ?_
  refine tp_i (show ((nI 72) + (nI (i * (wP xs n)))) = (nI (72 + (i * (wP xs n)))) from nI_add _ _) ?_
  refine lv_iload_n hx hb dPa_read_24 rfl (lv_at hl 0 rfl) ?_
  refine kc_l (wc := [(qb, .inr (0, [.ref qo, .int (nI bc)])), (qo, .inl (cB, 10242, .inl o))]) (wr := [(qf, .inr (2, []))]) hP hD hS hA [1, 2] [0] rfl rfl (by decide) (by decide) (by decide) (fun hPc hDc => va_runV (As := [.int (nI (72 + (i * (wP xs n)))), .int (nI (wP xs n))]) (rest := [.long (rLo xs n)]) ⟨hx, hb, hml, hown, hts⟩ (c_bitsAt l D cJ cB cI cF qb qo bc o B (72 + (i * (wP xs n))) (wP xs n) (xs i - rLo xs n) _ (hc) (hbm) (hw1) (by omega) (k4 i hi1) (bL_small (wP_fits hi1))) (cwV 2 hts (wsG_k tw_475 (wsG_k tw_465 (wsG_k tw_466 (wsG_k tw_3 (wsG_c tw_467))))) rfl rfl rfl (by decide +kernel) ⟨Nat.le_of_ble_eq_true rfl, Nat.le_of_ble_eq_true rfl⟩) ⟨cf_blind, va_recv hK hPc (ci := 0) (q0 := 0) rfl rfl, cf_pre hPc hK hDc hWd⟩ rfl rfl hl.1 rfl (lv_room (Nat.le_of_ble_eq_true rfl)) dPa_read_25 ⟨Nat.le_of_ble_eq_true rfl, Nat.le_of_ble_eq_true rfl⟩) (fun r u H locs hw hP hD hS => ?_)
  obtain ⟨rfl, -⟩ := hw
  have hP : va_P D vwCl [(qf, .inr (2, [])), (qb, .inr (0, [.ref qo, .int (nI bc)])), (qo, .inl (cB, 10242, .inl o))] H := hP
  have hD : va_D A [(qf, .inr (2, [])), (qb, .inr (0, [.ref qo, .int (nI bc)])), (qo, .inl (cB, 10242, .inl o))] := hD
  refine lv_ladd hx hb dPa_read_28 ?_
  refine tp_l (show ((rLo xs n) + (xs i - rLo xs n)) = (xs i) from l_back _ _) ?_
  exact hret (xs i) () _ _ _ _ _ _ ⟨rfl, trivial⟩ (hP.sub [0, 1, 2] rfl) (hD.sub [0, 1, 2] (by decide) rfl) hS (Nat.le_of_ble_eq_true rfl) (Nat.le_of_ble_eq_true rfl) dPa_read_29

set_option maxHeartbeats 4000000 in
set_option maxRecDepth 100000 in
theorem c_paA (l : Launch) (D : va_G) (cJ cB cI cF : ClassId) (qf : Nat) (qb : Nat) (qo : Nat) (bc : Nat) (o : Nat → Int32) (B : Nat → Bool) (xs : Nat → Int64) (n : Nat) (qq : Nat) (ht_ : Int32) (tt : Int64) (kd : Nat) (low : Int64) (high : Int64) (sz : Nat) (hc : oB o bc B) (hbm : bc ≤ 81936) (hn : n ≤ 1024) (hn0 : 0 < n) (hL : lK xs n bc B) (hk : kd < 5) : Met l yPa_askAll (Cond.code yPa_askAll cPa_askAll 8 none :: wsG) ({ frames := 2, cells := 0, slots := 0, locals := 51 }) (va_Pc [.ref qf, .ref qb, .int (nI n), .ref qq] (cfPre D (cfT cJ cB cI cF) [(qf, .inr (2, [])), (qb, .inr (0, [.ref qo, .int (nI bc)])), (qo, .inl (cB, 10242, .inl o)), (qq, .inr (4, [.int ht_, .long tt, .int (nI kd), .long low, .long high]))] sz)) (va_Qv (fun (u : Int32 × Int64) => (u.1 = ht_ + nI (nC (qF kd low high) xs n)) ∧ (u.2 = tt + nS (qF kd low high) xs n) ∧ True) (fun u t => cfPost D ((fun (u : Int32 × Int64) => [(qf, .inr (2, [])), (qb, .inr (0, [.ref qo, .int (nI bc)])), (qo, .inl (cB, 10242, .inl o)), (qq, .inr (4, [.int u.1, .long u.2, .int (nI kd), .long low, .long high]))]) u) (va_A [(qf, .inr (2, [])), (qb, .inr (0, [.ref qo, .int (nI bc)])), (qo, .inl (cB, 10242, .inl o)), (qq, .inr (4, [.int ht_, .long tt, .int (nI kd), .long low, .long high]))] sz) t) (va_A [(qf, .inr (2, [])), (qb, .inr (0, [.ref qo, .int (nI bc)])), (qo, .inl (cB, 10242, .inl o)), (qq, .inr (4, [.int ht_, .long tt, .int (nI kd), .long low, .long high]))] sz)) 0 0 (va_A [(qf, .inr (2, [])), (qb, .inr (0, [.ref qo, .int (nI bc)])), (qo, .inl (cB, 10242, .inl o)), (qq, .inr (4, [.int ht_, .long tt, .int (nI kd), .long low, .long high]))] sz) := by
  refine met_v (cc := cPa_askAll) (maxL := 8) (S := Int32 × Int64) (D := D) (wO := fun (u : Int32 × Int64) => [(qf, .inr (2, [])), (qb, .inr (0, [.ref qo, .int (nI bc)])), (qo, .inl (cB, 10242, .inl o)), (qq, .inr (4, [.int u.1, .long u.2, .int (nI kd), .long low, .long high]))]) (by decide) (Nat.le_of_ble_eq_true rfl) ?_
  intro p e s m below meth c hx hb hml hown hts hlocks hin hWd A hA hsz hP hK hD hS Q hret ls hl
  have hown : s.vm.findClass "ColumnForms$Packed" = some m.cls := hown
  have hl : lv_has ls 8 [(0, .ref qf), (1, .ref qb), (2, .int (nI n)), (3, .ref qq)] := hl
  have hP : va_P D vwCl [(qf, .inr (2, [])), (qb, .inr (0, [.ref qo, .int (nI bc)])), (qo, .inl (cB, 10242, .inl o)), (qq, .inr (4, [.int ht_, .long tt, .int (nI kd), .long low, .long high]))] s.heap := hP
  have k1 := hL.1
  have k2 := hL.2.1
  have k3 := hL.2.2.1
  have k4 := hL.2.2.2
  have hw1 := wP_le xs n
  have hm0 : n * wP xs n ≤ 1024 * 64 := Nat.mul_le_mul hn hw1
  refine lv_aload_n hx hb dPa_askAll_0 rfl (lv_at hl 1 rfl) ?_
  refine lv_iconst (v := nI 0) hx hb dPa_askAll_1 (by decide) ?_
  refine lv_bipush (v := nI 64) hx hb dPa_askAll_2 (by decide) ?_
  refine kc_l (wc := [(qb, .inr (0, [.ref qo, .int (nI bc)])), (qo, .inl (cB, 10242, .inl o))]) (wr := [(qf, .inr (2, [])), (qq, .inr (4, [.int ht_, .long tt, .int (nI kd), .long low, .long high]))]) hP hD hS hA [1, 2] [0, 3] rfl rfl (by decide) (by decide) (by decide) (fun hPc hDc => va_runV (As := [.int (nI 0), .int (nI 64)]) (rest := []) ⟨hx, hb, hml, hown, hts⟩ (c_bitsAt l D cJ cB cI cF qb qo bc o B 0 64 (rLo xs n) _ (hc) (hbm) (by omega) (by omega) (k2) (bL_64)) (cwV 2 hts (wsG_k tw_475 (wsG_k tw_465 (wsG_k tw_466 (wsG_k tw_3 (wsG_c tw_467))))) rfl rfl rfl (by decide +kernel) ⟨Nat.le_of_ble_eq_true rfl, Nat.le_of_ble_eq_true rfl⟩) ⟨cf_blind, va_recv hK hPc (ci := 0) (q0 := 0) rfl rfl, cf_pre hPc hK hDc hWd⟩ rfl rfl hl.1 rfl (lv_room (Nat.le_of_ble_eq_true rfl)) dPa_askAll_4 ⟨Nat.le_of_ble_eq_true rfl, Nat.le_of_ble_eq_true rfl⟩) (fun r u H locs hw hP hD hS => ?_)
  obtain ⟨rfl, -⟩ := hw
  have hP : va_P D vwCl [(qf, .inr (2, [])), (qq, .inr (4, [.int ht_, .long tt, .int (nI kd), .long low, .long high])), (qb, .inr (0, [.ref qo, .int (nI bc)])), (qo, .inl (cB, 10242, .inl o))] H := hP
  have hD : va_D A [(qf, .inr (2, [])), (qq, .inr (4, [.int ht_, .long tt, .int (nI kd), .long low, .long high])), (qb, .inr (0, [.ref qo, .int (nI bc)])), (qo, .inl (cB, 10242, .inl o))] := hD
  refine lv_lstore (lv' := [(4, .long (rLo xs n)), (0, .ref qf), (1, .ref qb), (2, .int (nI n)), (3, .ref qq)]) hx hb dPa_askAll_7 hl (by decide) rfl (fun ls hl => ?_)
  refine lv_aload_n hx hb dPa_askAll_9 rfl (lv_at hl 2 rfl) ?_
  refine lv_bipush (v := nI 64) hx hb dPa_askAll_10 (by decide) ?_
  refine lv_bipush (v := nI 8) hx hb dPa_askAll_12 (by decide) ?_
  refine kc_l (wc := [(qb, .inr (0, [.ref qo, .int (nI bc)])), (qo, .inl (cB, 10242, .inl o))]) (wr := [(qf, .inr (2, [])), (qq, .inr (4, [.int ht_, .long tt, .int (nI kd), .long low, .long high]))]) hP hD hS hA [2, 3] [0, 1] rfl rfl (by decide) (by decide) (by decide) (fun hPc hDc => va_runV (As := [.int (nI 64), .int (nI 8)]) (rest := []) ⟨hx, hb, hml, hown, hts⟩ (c_bitsAt l D cJ cB cI cF qb qo bc o B 64 8 (lN (wP xs n)) _ (hc) (hbm) (by omega) (by omega) (k3) (lN_small (Nat.lt_of_le_of_lt hw1 (by decide)) (by omega))) (cwV 2 hts (wsG_k tw_475 (wsG_k tw_465 (wsG_k tw_466 (wsG_k tw_3 (wsG_c tw_467))))) rfl rfl rfl (by decide +kernel) ⟨Nat.le_of_ble_eq_true rfl, Nat.le_of_ble_eq_true rfl⟩) ⟨cf_blind, va_recv hK hPc (ci := 0) (q0 := 0) rfl rfl, cf_pre hPc hK hDc hWd⟩ rfl rfl hl.1 rfl (lv_room (Nat.le_of_ble_eq_true rfl)) dPa_askAll_14 ⟨Nat.le_of_ble_eq_true rfl, Nat.le_of_ble_eq_true rfl⟩) (fun r u H locs hw hP hD hS => ?_)
  obtain ⟨rfl, -⟩ := hw
  have hP : va_P D vwCl [(qf, .inr (2, [])), (qq, .inr (4, [.int ht_, .long tt, .int (nI kd), .long low, .long high])), (qb, .inr (0, [.ref qo, .int (nI bc)])), (qo, .inl (cB, 10242, .inl o))] H := hP
  have hD : va_D A [(qf, .inr (2, [])), (qq, .inr (4, [.int ht_, .long tt, .int (nI kd), .long low, .long high])), (qb, .inr (0, [.ref qo, .int (nI bc)])), (qo, .inl (cB, 10242, .inl o))] := hD
  refine lv_l2i hx hb dPa_askAll_17 rfl ?_
  refine tp_i (show ((lN (wP xs n)).toInt32) = (nI (wP xs n)) from lN_i _) ?_
  refine lv_istore (lv' := [(6, .int (nI (wP xs n))), (4, .long (rLo xs n)), (0, .ref qf), (1, .ref qb), (2, .int (nI n)), (3, .ref qq)]) hx hb dPa_askAll_18 hl (by decide) rfl (fun ls hl => ?_)
  refine lv_iconst (v := nI 0) hx hb dPa_askAll_20 (by decide) ?_
  refine lv_istore (lv' := [(7, .int (nI 0)), (6, .int (nI (wP xs n))), (4, .long (rLo xs n)), (0, .ref qf), (1, .ref qb), (2, .int (nI n)), (3, .ref qq)]) hx hb dPa_askAll_21 hl (by decide) rfl (fun ls hl => ?_)
  have lp : ∀ (k_lp : Nat) (i : Nat) (h1 : Int32) (t1 : Int64), (i ≤ n) → (h1 = ht_ + nI (nC (qF kd low high) xs i)) → (t1 = tt + nS (qF kd low high) xs i) → (n - i < k_lp) → ∀ (H : Heap) (locs : List Loc) (ls : Array Slot), va_P D vwCl [(qf, .inr (2, [])), (qb, .inr (0, [.ref qo, .int (nI bc)])), (qo, .inl (cB, 10242, .inl o)), (qq, .inr (4, [.int h1, .long t1, .int (nI kd), .long low, .long high]))] H → va_D A [(qf, .inr (2, [])), (qb, .inr (0, [.ref qo, .int (nI bc)])), (qo, .inl (cB, 10242, .inl o)), (qq, .inr (4, [.int h1, .long t1, .int (nI kd), .long low, .long high]))] → va_S A s.heap H locs → lv_has ls 8 [(0, .ref qf), (1, .ref qb), (2, .int (nI n)), (3, .ref qq), (4, .long (rLo xs n)), (6, .int (nI (wP xs n))), (7, .int (nI i))] → W p l e ({ frames := 2, cells := 0, slots := 0, locals := 51 }) s m ([.ref qf, .ref qb, .int (nI n), .ref qq].toArray) below meth c H locs (0) (0) Q (F0 m 23 ls []) := by
    intro k_lp
    induction k_lp with
    | zero => intro i h1 t1 g1 g2 g3 hfu; exact absurd hfu (by omega)
    | succ k_lp ih_lp =>
      intro i h1 t1 g1 g2 g3 hfu H locs ls hP hD hS hl
      refine lv_iload hx hb dPa_askAll_23 (lv_at hl 6 rfl) ?_
      refine lv_iload_n hx hb dPa_askAll_25 rfl (lv_at hl 2 rfl) ?_
      refine lv_icmp_ge (tgt := 57) hx hb dPa_askAll_26 (by decide) (fun c26 => ?_) (fun c26 => ?_)
      · have c26 : n ≤ i := (nI_leI (by omega) (by omega)).mp c26
        exact hret (h1, t1) _ _ _ _ _ _ ⟨by show h1 = _; rw [g2, show i = n by omega], by show t1 = _; rw [g3, show i = n by omega], trivial⟩ (hP.sub [0, 1, 2, 3] rfl) (hD.sub [0, 1, 2, 3] (by decide) rfl) hS (Nat.le_of_ble_eq_true rfl) (Nat.le_of_ble_eq_true rfl) dPa_askAll_57
      · have c26 : ¬ n ≤ i := fun h => c26 ((nI_leI (by omega) (by omega)).mpr h)
        have hil : i < n := by omega
        have hm := mul_lo (w := wP xs n) hil
        refine lv_aload_n hx hb dPa_askAll_29 rfl (lv_at hl 3 rfl) ?_
        refine lv_lload hx hb dPa_askAll_30 (lv_at hl 4 rfl) ?_
        refine lv_aload_n hx hb dPa_askAll_32 rfl (lv_at hl 1 rfl) ?_
        refine lv_bipush (v := nI 72) hx hb dPa_askAll_33 (by decide) ?_
        refine lv_iload hx hb dPa_askAll_35 (lv_at hl 6 rfl) ?_
        refine lv_iload hx hb dPa_askAll_37 (lv_at hl 5 rfl) ?_
        refine lv_imul hx hb dPa_askAll_39 ?_
        refine tp_i (show ((nI i) * (nI (wP xs n))) = (nI (i * (wP xs n))) from pk_mul _ _) ?_
        refine lv_iadd hx hb dPa_askAll_40 ?_
        refine tp_i (show ((nI 72) + (nI (i * (wP xs n)))) = (nI (72 + (i * (wP xs n)))) from nI_add _ _) ?_
        refine lv_iload hx hb dPa_askAll_41 (lv_at hl 5 rfl) ?_
        refine kc_l (wc := [(qb, .inr (0, [.ref qo, .int (nI bc)])), (qo, .inl (cB, 10242, .inl o))]) (wr := [(qf, .inr (2, [])), (qq, .inr (4, [.int h1, .long t1, .int (nI kd), .long low, .long high]))]) hP hD hS hA [1, 2] [0, 3] rfl rfl (by decide) (by decide) (by decide) (fun hPc hDc => va_runV (As := [.int (nI (72 + (i * (wP xs n)))), .int (nI (wP xs n))]) (rest := [.long (rLo xs n), .ref qq]) ⟨hx, hb, hml, hown, hts⟩ (c_bitsAt l D cJ cB cI cF qb qo bc o B (72 + (i * (wP xs n))) (wP xs n) (xs i - rLo xs n) _ (hc) (hbm) (hw1) (by omega) (k4 i hil) (bL_small (wP_fits hil))) (cwV 2 hts (wsG_k tw_475 (wsG_k tw_465 (wsG_k tw_466 (wsG_k tw_3 (wsG_c tw_467))))) rfl rfl rfl (by decide +kernel) ⟨Nat.le_of_ble_eq_true rfl, Nat.le_of_ble_eq_true rfl⟩) ⟨cf_blind, va_recv hK hPc (ci := 0) (q0 := 0) rfl rfl, cf_pre hPc hK hDc hWd⟩ rfl rfl hl.1 rfl (lv_room (Nat.le_of_ble_eq_true rfl)) dPa_askAll_43 ⟨Nat.le_of_ble_eq_true rfl, Nat.le_of_ble_eq_true rfl⟩) (fun r u H locs hw hP hD hS => ?_)
        obtain ⟨rfl, -⟩ := hw
        have hP : va_P D vwCl [(qf, .inr (2, [])), (qq, .inr (4, [.int h1, .long t1, .int (nI kd), .long low, .long high])), (qb, .inr (0, [.ref qo, .int (nI bc)])), (qo, .inl (cB, 10242, .inl o))] H := hP
        have hD : va_D A [(qf, .inr (2, [])), (qq, .inr (4, [.int h1, .long t1, .int (nI kd), .long low, .long high])), (qb, .inr (0, [.ref qo, .int (nI bc)])), (qo, .inl (cB, 10242, .inl o))] := hD
        refine lv_ladd hx hb dPa_askAll_46 ?_
        refine tp_l (show ((rLo xs n) + (xs i - rLo xs n)) = (xs i) from l_back _ _) ?_
        refine lv_iconst (v := nI 1) hx hb dPa_askAll_47 (by decide) ?_
        refine kc_v (wc := [(qq, .inr (4, [.int h1, .long t1, .int (nI kd), .long low, .long high]))]) (wr := [(qf, .inr (2, [])), (qb, .inr (0, [.ref qo, .int (nI bc)])), (qo, .inl (cB, 10242, .inl o))]) hP hD hS hA [1] [0, 2, 3] rfl rfl (by decide) (by decide) (by decide) (fun hPc hDc => va_runV (As := [.long (xs i), .int (nI 1)]) (rest := []) ⟨hx, hb, hml, hown, hts⟩ (c_ask l D cJ cB cI cF qq h1 t1 kd low high (xs i) (nI 1) _ (hk)) (cwV 2 hts (wsG_k tw_562 (wsG_k tw_552 (wsG_k tw_553 (wsG_k tw_20 (wsG_c tw_554))))) rfl rfl rfl (by decide +kernel) ⟨Nat.le_of_ble_eq_true rfl, Nat.le_of_ble_eq_true rfl⟩) ⟨cf_blind, va_recv hK hPc (ci := 4) (q0 := 0) rfl rfl, cf_pre hPc hK hDc hWd⟩ rfl rfl hl.1 rfl (lv_room (Nat.le_of_ble_eq_true rfl)) dPa_askAll_48 ⟨Nat.le_of_ble_eq_true rfl, Nat.le_of_ble_eq_true rfl⟩) (fun u H locs hw hP hD hS => ?_)
        obtain ⟨h2_1, t2_2⟩ := u
        obtain ⟨a1, a2, -⟩ := hw
        have a1 : h2_1 = h1 + (if qF kd low high (xs i) then (nI 1) else 0) := a1
        have a2 : t2_2 = t1 + (if qF kd low high (xs i) then (xs i) * (nI 1).toInt64 else 0) := a2
        have hP : va_P D vwCl [(qf, .inr (2, [])), (qb, .inr (0, [.ref qo, .int (nI bc)])), (qo, .inl (cB, 10242, .inl o)), (qq, .inr (4, [.int h2_1, .long t2_2, .int (nI kd), .long low, .long high]))] H := hP
        have hD : va_D A [(qf, .inr (2, [])), (qb, .inr (0, [.ref qo, .int (nI bc)])), (qo, .inl (cB, 10242, .inl o)), (qq, .inr (4, [.int h2_1, .long t2_2, .int (nI kd), .long low, .long high]))] := hD
        refine lv_iinc (v := nI (i + 1)) (lv' := [(7, .int (nI (i + 1))), (0, .ref qf), (1, .ref qb), (2, .int (nI n)), (3, .ref qq), (4, .long (rLo xs n)), (6, .int (nI (wP xs n)))]) hx hb dPa_askAll_51 hl (k := 6) rfl (by rw [show (Int32.ofInt 1) = nI 1 from by decide]; exact nI_add _ _) (by decide) rfl (fun ls hl => ?_)
        refine lv_goto (tgt := 23) hx hb dPa_askAll_54 (by decide) ?_
        exact ih_lp (i + 1) h2_1 t2_2 (by omega) (ask_c g2 a1) (ask_s g3 a2) (by omega) _ _ _ (hP.sub [0, 1, 2, 3] rfl) (hD.sub [0, 1, 2, 3] (by decide) rfl) hS (lv_sub hl [1, 2, 3, 4, 5, 6, 0] rfl)
  exact lp (n - 0 + 1) 0 ht_ tt (Nat.zero_le n) ((Int32.add_zero _).symm) ((Int64.add_zero _).symm) (by omega) _ _ _ (hP.sub [0, 2, 3, 1] rfl) (hD.sub [0, 2, 3, 1] (by decide) rfl) hS (lv_sub hl [3, 4, 5, 6, 2, 1, 0] rfl)

set_option maxHeartbeats 4000000 in
set_option maxRecDepth 100000 in
theorem c_ssO (l : Launch) (D : va_G) (cJ cB cI cF : ClassId) (qr : Nat) (n : Nat) (d : Nat) (rn : Nat) (lo : Int64) (hi : Int64) (sl : Int64) (sh : Int64) (qc : Nat) (qs : Nat) (sz : Nat) : Met l ySs_widthOf (Cond.code ySs_widthOf cSs_widthOf 1 (some .int) :: wsG) ({ frames := 3, cells := 0, slots := 0, locals := 64 }) (va_Pc [.ref qr] (cfPre D (cfT cJ cB cI cF) [(qr, .inr (5, [.int (nI n), .int (nI d), .int (nI rn), .long lo, .long hi, .long sl, .long sh, .ref qc, .ref qs]))] sz)) (va_Qi (fun (r : Int32) (u : Unit) => r = nI (bln (uN (sh - sl))) ∧ True) (fun u t => cfPost D ((fun (u : Unit) => [(qr, .inr (5, [.int (nI n), .int (nI d), .int (nI rn), .long lo, .long hi, .long sl, .long sh, .ref qc, .ref qs]))]) u) (va_A [(qr, .inr (5, [.int (nI n), .int (nI d), .int (nI rn), .long lo, .long hi, .long sl, .long sh, .ref qc, .ref qs]))] sz) t) (va_A [(qr, .inr (5, [.int (nI n), .int (nI d), .int (nI rn), .long lo, .long hi, .long sl, .long sh, .ref qc, .ref qs]))] sz)) 0 0 (va_A [(qr, .inr (5, [.int (nI n), .int (nI d), .int (nI rn), .long lo, .long hi, .long sl, .long sh, .ref qc, .ref qs]))] sz) := by
  refine met_i (cc := cSs_widthOf) (maxL := 1) (S := Unit) (D := D) (wO := fun (u : Unit) => [(qr, .inr (5, [.int (nI n), .int (nI d), .int (nI rn), .long lo, .long hi, .long sl, .long sh, .ref qc, .ref qs]))]) (by decide) (Nat.le_of_ble_eq_true rfl) ?_
  intro p e s m below meth c hx hb hml hown hts hlocks hin hWd A hA hsz hP hK hD hS Q hret ls hl
  have hown : s.vm.findClass "ColumnForms$Steps" = some m.cls := hown
  have hl : lv_has ls 1 [(0, .ref qr)] := hl
  have hP : va_P D vwCl [(qr, .inr (5, [.int (nI n), .int (nI d), .int (nI rn), .long lo, .long hi, .long sl, .long sh, .ref qc, .ref qs]))] s.heap := hP
  refine lv_aload_n hx hb dSs_widthOf_0 rfl (lv_at hl 0 rfl) ?_
  refine va_get (D := D) (ci := 5) (v := .long sh) (C := "ColumnForms$Row") (T := TRo) (N := 9) hx hb hts inRo hown hK hP 0 rfl rfl 6 (by decide) (hts _ tw_53) (fun _ h9 => h9) rfl dSs_widthOf_1 ?_
  refine lv_aload_n hx hb dSs_widthOf_4 rfl (lv_at hl 0 rfl) ?_
  refine va_get (D := D) (ci := 5) (v := .long sl) (C := "ColumnForms$Row") (T := TRo) (N := 9) hx hb hts inRo hown hK hP 0 rfl rfl 5 (by decide) (hts _ tw_51) (fun _ h9 => h9) rfl dSs_widthOf_5 ?_
  refine lv_lsub hx hb dSs_widthOf_8 ?_
  refine kc_i (wc := []) (wr := [(qr, .inr (5, [.int (nI n), .int (nI d), .int (nI rn), .long lo, .long hi, .long sl, .long sh, .ref qc, .ref qs]))]) hP hD hS hA [] [0] rfl rfl (by decide) (by decide) (by decide) (fun hPc hDc => va_runSN (As := [.long (sh - sl)]) (rest := []) ⟨hx, hb, hml, hown, hts⟩ (c_bits l D cJ cB cI cF (sh - sl) _) (⟨va_cnB 1 hts (wsG_c tw_337) rfl rfl rfl (hWd.nest 18 rfl) (hts _ tw_1) (by decide +kernel) ⟨Nat.le_of_ble_eq_true rfl, Nat.le_of_ble_eq_true rfl⟩, hts _ tw_336, trivial⟩) ⟨cf_blind, cf_pre hPc hK hDc hWd⟩ rfl rfl hl.1 rfl (lv_room (Nat.le_of_ble_eq_true rfl)) dSs_widthOf_9 ⟨Nat.le_of_ble_eq_true rfl, Nat.le_of_ble_eq_true rfl⟩) (fun r u H locs hw hP hD hS => ?_)
  obtain ⟨rfl, -⟩ := hw
  have hP : va_P D vwCl [(qr, .inr (5, [.int (nI n), .int (nI d), .int (nI rn), .long lo, .long hi, .long sl, .long sh, .ref qc, .ref qs]))] H := hP
  have hD : va_D A [(qr, .inr (5, [.int (nI n), .int (nI d), .int (nI rn), .long lo, .long hi, .long sl, .long sh, .ref qc, .ref qs]))] := hD
  exact hret (nI (bln (uN (sh - sl)))) () _ _ _ _ _ _ ⟨rfl, trivial⟩ (hP.sub [0] rfl) (hD.sub [0] (by decide) rfl) hS (Nat.le_of_ble_eq_true rfl) (Nat.le_of_ble_eq_true rfl) dSs_widthOf_12

set_option maxHeartbeats 4000000 in
set_option maxRecDepth 100000 in
theorem c_ssW (l : Launch) (D : va_G) (cJ cB cI cF : ClassId) (qf : Nat) (qr : Nat) (n : Nat) (d : Nat) (rn : Nat) (lo : Int64) (hi : Int64) (sl : Int64) (sh : Int64) (qc : Nat) (qs : Nat) (sz : Nat) (hn : n ≤ 1024) (hn0 : 0 < n) : Met l ySs_weigh (Cond.code ySs_weigh cSs_weigh 2 (some .int) :: wsG) ({ frames := 4, cells := 0, slots := 0, locals := 84 }) (va_Pc [.ref qf, .ref qr] (cfPre D (cfT cJ cB cI cF) [(qf, .inr (7, [])), (qr, .inr (5, [.int (nI n), .int (nI d), .int (nI rn), .long lo, .long hi, .long sl, .long sh, .ref qc, .ref qs]))] sz)) (va_Qi (fun (r : Int32) (u : Unit) => r = nI ((136 + (n - 1) * bln (uN (sh - sl)) + 7) / 8) ∧ True) (fun u t => cfPost D ((fun (u : Unit) => [(qf, .inr (7, [])), (qr, .inr (5, [.int (nI n), .int (nI d), .int (nI rn), .long lo, .long hi, .long sl, .long sh, .ref qc, .ref qs]))]) u) (va_A [(qf, .inr (7, [])), (qr, .inr (5, [.int (nI n), .int (nI d), .int (nI rn), .long lo, .long hi, .long sl, .long sh, .ref qc, .ref qs]))] sz) t) (va_A [(qf, .inr (7, [])), (qr, .inr (5, [.int (nI n), .int (nI d), .int (nI rn), .long lo, .long hi, .long sl, .long sh, .ref qc, .ref qs]))] sz)) 0 0 (va_A [(qf, .inr (7, [])), (qr, .inr (5, [.int (nI n), .int (nI d), .int (nI rn), .long lo, .long hi, .long sl, .long sh, .ref qc, .ref qs]))] sz) := by
  refine met_i (cc := cSs_weigh) (maxL := 2) (S := Unit) (D := D) (wO := fun (u : Unit) => [(qf, .inr (7, [])), (qr, .inr (5, [.int (nI n), .int (nI d), .int (nI rn), .long lo, .long hi, .long sl, .long sh, .ref qc, .ref qs]))]) (by decide) (Nat.le_of_ble_eq_true rfl) ?_
  intro p e s m below meth c hx hb hml hown hts hlocks hin hWd A hA hsz hP hK hD hS Q hret ls hl
  have hown : s.vm.findClass "ColumnForms$Steps" = some m.cls := hown
  have hl : lv_has ls 2 [(0, .ref qf), (1, .ref qr)] := hl
  have hP : va_P D vwCl [(qf, .inr (7, [])), (qr, .inr (5, [.int (nI n), .int (nI d), .int (nI rn), .long lo, .long hi, .long sl, .long sh, .ref qc, .ref qs]))] s.heap := hP
  have hw2 : (n - 1) * bln (uN (sh - sl)) ≤ 1024 * 64 := Nat.mul_le_mul (by omega) (bln64 _)
  refine lv_sipush (v := nI 136) hx hb dSs_weigh_0 (by decide) ?_
  refine lv_aload_n hx hb dSs_weigh_3 rfl (lv_at hl 1 rfl) ?_
  refine va_get (D := D) (ci := 5) (v := .int (nI n)) (C := "ColumnForms$Row") (T := TRo) (N := 9) hx hb hts inRo hown hK hP 1 rfl rfl 0 (by decide) (hts _ tw_39) (fun _ h9 => h9) rfl dSs_weigh_4 ?_
  refine lv_iconst (v := nI 1) hx hb dSs_weigh_7 (by decide) ?_
  refine lv_isub hx hb dSs_weigh_8 ?_
  refine tp_i (show ((nI n) - (nI 1)) = (nI (n - 1)) from pk_sub (by omega)) ?_
  refine lv_aload_n hx hb dSs_weigh_9 rfl (lv_at hl 1 rfl) ?_
  refine kc_i (wc := [(qr, .inr (5, [.int (nI n), .int (nI d), .int (nI rn), .long lo, .long hi, .long sl, .long sh, .ref qc, .ref qs]))]) (wr := [(qf, .inr (7, []))]) hP hD hS hA [1] [0] rfl rfl (by decide) (by decide) (by decide) (fun hPc hDc => va_runS (As := [.ref qr]) (rest := [.int (nI (n - 1)), .int (nI 136)]) ⟨hx, hb, hml, hown, hts⟩ (c_ssO l D cJ cB cI cF qr n d rn lo hi sl sh qc qs _) (va_cwS 1 hts (wsG_k tw_364 (wsG_k tw_365 (wsG_k tw_9 (wsG_c tw_366)))) rfl rfl rfl (by decide +kernel) ⟨Nat.le_of_ble_eq_true rfl, Nat.le_of_ble_eq_true rfl⟩) ⟨cf_blind, cf_pre hPc hK hDc hWd⟩ rfl rfl hl.1 rfl (lv_room (Nat.le_of_ble_eq_true rfl)) dSs_weigh_10 ⟨Nat.le_of_ble_eq_true rfl, Nat.le_of_ble_eq_true rfl⟩) (fun r u H locs hw hP hD hS => ?_)
  obtain ⟨rfl, -⟩ := hw
  have hP : va_P D vwCl [(qf, .inr (7, [])), (qr, .inr (5, [.int (nI n), .int (nI d), .int (nI rn), .long lo, .long hi, .long sl, .long sh, .ref qc, .ref qs]))] H := hP
  have hD : va_D A [(qf, .inr (7, [])), (qr, .inr (5, [.int (nI n), .int (nI d), .int (nI rn), .long lo, .long hi, .long sl, .long sh, .ref qc, .ref qs]))] := hD
  refine lv_imul hx hb dSs_weigh_13 ?_
  refine tp_i (show ((nI (n - 1)) * (nI (bln (uN (sh - sl))))) = (nI ((n - 1) * (bln (uN (sh - sl))))) from pk_mul _ _) ?_
  refine lv_iadd hx hb dSs_weigh_14 ?_
  refine tp_i (show ((nI 136) + (nI ((n - 1) * (bln (uN (sh - sl)))))) = (nI (136 + ((n - 1) * (bln (uN (sh - sl)))))) from nI_add _ _) ?_
  refine kc_i (wc := []) (wr := [(qf, .inr (7, [])), (qr, .inr (5, [.int (nI n), .int (nI d), .int (nI rn), .long lo, .long hi, .long sl, .long sh, .ref qc, .ref qs]))]) hP hD hS hA [] [0, 1] rfl rfl (by decide) (by decide) (by decide) (fun hPc hDc => va_runSN (As := [.int (nI (136 + ((n - 1) * (bln (uN (sh - sl))))))]) (rest := []) ⟨hx, hb, hml, hown, hts⟩ (c_whole l D cJ cB cI cF (136 + ((n - 1) * (bln (uN (sh - sl))))) _ (by omega)) (⟨va_cnB 1 hts (wsG_c tw_173) rfl rfl rfl (hWd.nest 19 rfl) (hts _ tw_1) (by decide +kernel) ⟨Nat.le_of_ble_eq_true rfl, Nat.le_of_ble_eq_true rfl⟩, hts _ tw_172, trivial⟩) ⟨cf_blind, cf_pre hPc hK hDc hWd⟩ rfl rfl hl.1 rfl (lv_room (Nat.le_of_ble_eq_true rfl)) dSs_weigh_15 ⟨Nat.le_of_ble_eq_true rfl, Nat.le_of_ble_eq_true rfl⟩) (fun r u H locs hw hP hD hS => ?_)
  obtain ⟨rfl, -⟩ := hw
  have hP : va_P D vwCl [(qf, .inr (7, [])), (qr, .inr (5, [.int (nI n), .int (nI d), .int (nI rn), .long lo, .long hi, .long sl, .long sh, .ref qc, .ref qs]))] H := hP
  have hD : va_D A [(qf, .inr (7, [])), (qr, .inr (5, [.int (nI n), .int (nI d), .int (nI rn), .long lo, .long hi, .long sl, .long sh, .ref qc, .ref qs]))] := hD
  exact hret (nI (((136 + ((n - 1) * (bln (uN (sh - sl))))) + 7) / 8)) () _ _ _ _ _ _ ⟨rfl, trivial⟩ (hP.sub [0, 1] rfl) (hD.sub [0, 1] (by decide) rfl) hS (Nat.le_of_ble_eq_true rfl) (Nat.le_of_ble_eq_true rfl) dSs_weigh_18

set_option maxHeartbeats 4000000 in
set_option maxRecDepth 100000 in
theorem c_ssL (l : Launch) (D : va_G) (cJ cB cI cF : ClassId) (qf : Nat) (qr : Nat) (n : Nat) (d : Nat) (rn : Nat) (lo : Int64) (hi : Int64) (sl : Int64) (sh : Int64) (qc : Nat) (qs : Nat) (xs : Nat → Int64) (rs : Nat → Int64) (qb : Nat) (qo : Nat) (o : Nat → Int32) (sz : Nat) (hR : rAll xs n d rn lo hi sl sh rs) (hn0 : 0 < n) : Met l ySs_lay (Cond.code ySs_lay cSs_lay 5 none :: wsG) ({ frames := 4, cells := 0, slots := 0, locals := 84 }) (va_Pc [.ref qf, .ref qr, .ref qb] (cfPre D (cfT cJ cB cI cF) [(qf, .inr (7, [])), (qr, .inr (5, [.int (nI n), .int (nI d), .int (nI rn), .long lo, .long hi, .long sl, .long sh, .ref qc, .ref qs])), (qc, .inl (cJ, 1024, .inr (.inl xs))), (qb, .inr (0, [.ref qo, .int (nI 0)])), (qo, .inl (cB, 10242, .inl o))] sz)) (va_Qv (fun (u : Nat × (Nat → Int32) × (Nat → Bool)) => (oB u.2.1 u.1 u.2.2) ∧ (lS xs n u.1 u.2.2) ∧ (u.1 ≤ 81936) ∧ True) (fun u t => cfPost D ((fun (u : Nat × (Nat → Int32) × (Nat → Bool)) => [(qf, .inr (7, [])), (qr, .inr (5, [.int (nI n), .int (nI d), .int (nI rn), .long lo, .long hi, .long sl, .long sh, .ref qc, .ref qs])), (qc, .inl (cJ, 1024, .inr (.inl xs))), (qb, .inr (0, [.ref qo, .int (nI u.1)])), (qo, .inl (cB, 10242, .inl u.2.1))]) u) (va_A [(qf, .inr (7, [])), (qr, .inr (5, [.int (nI n), .int (nI d), .int (nI rn), .long lo, .long hi, .long sl, .long sh, .ref qc, .ref qs])), (qc, .inl (cJ, 1024, .inr (.inl xs))), (qb, .inr (0, [.ref qo, .int (nI 0)])), (qo, .inl (cB, 10242, .inl o))] sz) t) (va_A [(qf, .inr (7, [])), (qr, .inr (5, [.int (nI n), .int (nI d), .int (nI rn), .long lo, .long hi, .long sl, .long sh, .ref qc, .ref qs])), (qc, .inl (cJ, 1024, .inr (.inl xs))), (qb, .inr (0, [.ref qo, .int (nI 0)])), (qo, .inl (cB, 10242, .inl o))] sz)) 0 0 (va_A [(qf, .inr (7, [])), (qr, .inr (5, [.int (nI n), .int (nI d), .int (nI rn), .long lo, .long hi, .long sl, .long sh, .ref qc, .ref qs])), (qc, .inl (cJ, 1024, .inr (.inl xs))), (qb, .inr (0, [.ref qo, .int (nI 0)])), (qo, .inl (cB, 10242, .inl o))] sz) := by
  refine met_v (cc := cSs_lay) (maxL := 5) (S := Nat × (Nat → Int32) × (Nat → Bool)) (D := D) (wO := fun (u : Nat × (Nat → Int32) × (Nat → Bool)) => [(qf, .inr (7, [])), (qr, .inr (5, [.int (nI n), .int (nI d), .int (nI rn), .long lo, .long hi, .long sl, .long sh, .ref qc, .ref qs])), (qc, .inl (cJ, 1024, .inr (.inl xs))), (qb, .inr (0, [.ref qo, .int (nI u.1)])), (qo, .inl (cB, 10242, .inl u.2.1))]) (by decide) (Nat.le_of_ble_eq_true rfl) ?_
  intro p e s m below meth c hx hb hml hown hts hlocks hin hWd A hA hsz hP hK hD hS Q hret ls hl
  have hown : s.vm.findClass "ColumnForms$Steps" = some m.cls := hown
  have hl : lv_has ls 5 [(0, .ref qf), (1, .ref qr), (2, .ref qb)] := hl
  have hP : va_P D vwCl [(qf, .inr (7, [])), (qr, .inr (5, [.int (nI n), .int (nI d), .int (nI rn), .long lo, .long hi, .long sl, .long sh, .ref qc, .ref qs])), (qc, .inl (cJ, 1024, .inr (.inl xs))), (qb, .inr (0, [.ref qo, .int (nI 0)])), (qo, .inl (cB, 10242, .inl o))] s.heap := hP
  have hn := hR.1
  have hR4 := hR.2.2.2 hn0
  refine lv_aload_n hx hb dSs_lay_0 rfl (lv_at hl 1 rfl) ?_
  refine kc_i (wc := [(qr, .inr (5, [.int (nI n), .int (nI d), .int (nI rn), .long lo, .long hi, .long sl, .long sh, .ref qc, .ref qs]))]) (wr := [(qf, .inr (7, [])), (qc, .inl (cJ, 1024, .inr (.inl xs))), (qb, .inr (0, [.ref qo, .int (nI 0)])), (qo, .inl (cB, 10242, .inl o))]) hP hD hS hA [1] [0, 2, 3, 4] rfl rfl (by decide) (by decide) (by decide) (fun hPc hDc => va_runS (As := [.ref qr]) (rest := []) ⟨hx, hb, hml, hown, hts⟩ (c_ssO l D cJ cB cI cF qr n d rn lo hi sl sh qc qs _) (va_cwS 1 hts (wsG_k tw_364 (wsG_k tw_365 (wsG_k tw_9 (wsG_c tw_366)))) rfl rfl rfl (by decide +kernel) ⟨Nat.le_of_ble_eq_true rfl, Nat.le_of_ble_eq_true rfl⟩) ⟨cf_blind, cf_pre hPc hK hDc hWd⟩ rfl rfl hl.1 rfl (lv_room (Nat.le_of_ble_eq_true rfl)) dSs_lay_1 ⟨Nat.le_of_ble_eq_true rfl, Nat.le_of_ble_eq_true rfl⟩) (fun r u H locs hw hP hD hS => ?_)
  obtain ⟨rfl, -⟩ := hw
  have hP : va_P D vwCl [(qf, .inr (7, [])), (qc, .inl (cJ, 1024, .inr (.inl xs))), (qb, .inr (0, [.ref qo, .int (nI 0)])), (qo, .inl (cB, 10242, .inl o)), (qr, .inr (5, [.int (nI n), .int (nI d), .int (nI rn), .long lo, .long hi, .long sl, .long sh, .ref qc, .ref qs]))] H := hP
  have hD : va_D A [(qf, .inr (7, [])), (qc, .inl (cJ, 1024, .inr (.inl xs))), (qb, .inr (0, [.ref qo, .int (nI 0)])), (qo, .inl (cB, 10242, .inl o)), (qr, .inr (5, [.int (nI n), .int (nI d), .int (nI rn), .long lo, .long hi, .long sl, .long sh, .ref qc, .ref qs]))] := hD
  obtain ⟨wd, hwd⟩ : ∃ z, z = bln (uN (sh - sl)) := ⟨_, rfl⟩
  have hw1 : wd ≤ 64 := by rw [hwd]; exact bln64 _
  refine tp_i (show (nI (bln (uN (sh - sl)))) = (nI wd) from congrArg nI hwd.symm) ?_
  refine lv_istore_n (lv' := [(3, .int (nI wd)), (0, .ref qf), (1, .ref qr), (2, .ref qb)]) hx hb dSs_lay_4 rfl hl (by decide) rfl (fun ls hl => ?_)
  refine lv_aload_n hx hb dSs_lay_5 rfl (lv_at hl 3 rfl) ?_
  refine lv_aload_n hx hb dSs_lay_6 rfl (lv_at hl 2 rfl) ?_
  refine lv_iconst (v := nI 0) hx hb dSs_lay_7 (by decide) ?_
  refine kc_l (wc := [(qr, .inr (5, [.int (nI n), .int (nI d), .int (nI rn), .long lo, .long hi, .long sl, .long sh, .ref qc, .ref qs])), (qc, .inl (cJ, 1024, .inr (.inl xs)))]) (wr := [(qf, .inr (7, [])), (qb, .inr (0, [.ref qo, .int (nI 0)])), (qo, .inl (cB, 10242, .inl o))]) hP hD hS hA [4, 1] [0, 2, 3] rfl rfl (by decide) (by decide) (by decide) (fun hPc hDc => va_runV (As := [.int (nI 0)]) (rest := [.ref qb]) ⟨hx, hb, hml, hown, hts⟩ (c_at l D cJ cB cI cF qr n d rn lo hi sl sh qc qs xs 0 _ (by omega) (by omega)) (cwV 1 hts (wsG_k tw_426 (wsG_k tw_257 (wsG_k tw_258 (wsG_k tw_2 (wsG_c tw_259))))) rfl rfl rfl (by decide +kernel) ⟨Nat.le_of_ble_eq_true rfl, Nat.le_of_ble_eq_true rfl⟩) ⟨cf_blind, va_recv hK hPc (ci := 5) (q0 := 0) rfl rfl, cf_pre hPc hK hDc hWd⟩ rfl rfl hl.1 rfl (lv_room (Nat.le_of_ble_eq_true rfl)) dSs_lay_8 ⟨Nat.le_of_ble_eq_true rfl, Nat.le_of_ble_eq_true rfl⟩) (fun r u H locs hw hP hD hS => ?_)
  obtain ⟨rfl, -⟩ := hw
  have hP : va_P D vwCl [(qf, .inr (7, [])), (qb, .inr (0, [.ref qo, .int (nI 0)])), (qo, .inl (cB, 10242, .inl o)), (qr, .inr (5, [.int (nI n), .int (nI d), .int (nI rn), .long lo, .long hi, .long sl, .long sh, .ref qc, .ref qs])), (qc, .inl (cJ, 1024, .inr (.inl xs)))] H := hP
  have hD : va_D A [(qf, .inr (7, [])), (qb, .inr (0, [.ref qo, .int (nI 0)])), (qo, .inl (cB, 10242, .inl o)), (qr, .inr (5, [.int (nI n), .int (nI d), .int (nI rn), .long lo, .long hi, .long sl, .long sh, .ref qc, .ref qs])), (qc, .inl (cJ, 1024, .inr (.inl xs)))] := hD
  refine lv_bipush (v := nI 64) hx hb dSs_lay_11 (by decide) ?_
  refine kc_v (wc := [(qb, .inr (0, [.ref qo, .int (nI 0)])), (qo, .inl (cB, 10242, .inl o))]) (wr := [(qf, .inr (7, [])), (qr, .inr (5, [.int (nI n), .int (nI d), .int (nI rn), .long lo, .long hi, .long sl, .long sh, .ref qc, .ref qs])), (qc, .inl (cJ, 1024, .inr (.inl xs)))]) hP hD hS hA [1, 2] [0, 3, 4] rfl rfl (by decide) (by decide) (by decide) (fun hPc hDc => va_runV (As := [.long (xs 0), .int (nI 64)]) (rest := []) ⟨hx, hb, hml, hown, hts⟩ (c_append l D cJ cB cI cF qb qo 0 o (fun _ => false) (xs 0) 64 _ (oB_0 o _) (by omega) (by omega)) (cwV 2 hts (wsG_k tw_427 (wsG_k tw_395 (wsG_k tw_396 (wsG_k tw_3 (wsG_c tw_397))))) rfl rfl rfl (by decide +kernel) ⟨Nat.le_of_ble_eq_true rfl, Nat.le_of_ble_eq_true rfl⟩) ⟨cf_blind, va_recv hK hPc (ci := 0) (q0 := 0) rfl rfl, cf_pre hPc hK hDc hWd⟩ rfl rfl hl.1 rfl (lv_room (Nat.le_of_ble_eq_true rfl)) dSs_lay_13 ⟨Nat.le_of_ble_eq_true rfl, Nat.le_of_ble_eq_true rfl⟩) (fun u H locs hw hP hD hS => ?_)
  obtain ⟨o2_1, rfl⟩ : ∃ z, z = u := ⟨u, rfl⟩
  obtain ⟨e1, -⟩ := hw
  have e1 : oB o2_1 (0 + 64) (bA (fun _ => false) 0 (xs 0) 64) := e1
  have hP : va_P D vwCl [(qf, .inr (7, [])), (qr, .inr (5, [.int (nI n), .int (nI d), .int (nI rn), .long lo, .long hi, .long sl, .long sh, .ref qc, .ref qs])), (qc, .inl (cJ, 1024, .inr (.inl xs))), (qb, .inr (0, [.ref qo, .int (nI (0 + 64))])), (qo, .inl (cB, 10242, .inl o2_1))] H := hP
  have hD : va_D A [(qf, .inr (7, [])), (qr, .inr (5, [.int (nI n), .int (nI d), .int (nI rn), .long lo, .long hi, .long sl, .long sh, .ref qc, .ref qs])), (qc, .inl (cJ, 1024, .inr (.inl xs))), (qb, .inr (0, [.ref qo, .int (nI (0 + 64))])), (qo, .inl (cB, 10242, .inl o2_1))] := hD
  refine lv_aload_n hx hb dSs_lay_16 rfl (lv_at hl 3 rfl) ?_
  refine lv_aload_n hx hb dSs_lay_17 rfl (lv_at hl 2 rfl) ?_
  refine va_get (D := D) (ci := 5) (v := .long sl) (C := "ColumnForms$Row") (T := TRo) (N := 9) hx hb hts inRo hown hK hP 1 rfl rfl 5 (by decide) (hts _ tw_51) (fun _ h9 => h9) rfl dSs_lay_18 ?_
  refine lv_bipush (v := nI 64) hx hb dSs_lay_21 (by decide) ?_
  refine kc_v (wc := [(qb, .inr (0, [.ref qo, .int (nI (0 + 64))])), (qo, .inl (cB, 10242, .inl o2_1))]) (wr := [(qf, .inr (7, [])), (qr, .inr (5, [.int (nI n), .int (nI d), .int (nI rn), .long lo, .long hi, .long sl, .long sh, .ref qc, .ref qs])), (qc, .inl (cJ, 1024, .inr (.inl xs)))]) hP hD hS hA [3, 4] [0, 1, 2] rfl rfl (by decide) (by decide) (by decide) (fun hPc hDc => va_runV (As := [.long sl, .int (nI 64)]) (rest := []) ⟨hx, hb, hml, hown, hts⟩ (c_append l D cJ cB cI cF qb qo (0 + 64) o2_1 (bA (fun _ => false) 0 (xs 0) 64) sl 64 _ (e1) (by omega) (by omega)) (cwV 2 hts (wsG_k tw_427 (wsG_k tw_395 (wsG_k tw_396 (wsG_k tw_3 (wsG_c tw_397))))) rfl rfl rfl (by decide +kernel) ⟨Nat.le_of_ble_eq_true rfl, Nat.le_of_ble_eq_true rfl⟩) ⟨cf_blind, va_recv hK hPc (ci := 0) (q0 := 0) rfl rfl, cf_pre hPc hK hDc hWd⟩ rfl rfl hl.1 rfl (lv_room (Nat.le_of_ble_eq_true rfl)) dSs_lay_23 ⟨Nat.le_of_ble_eq_true rfl, Nat.le_of_ble_eq_true rfl⟩) (fun u H locs hw hP hD hS => ?_)
  obtain ⟨o2_2, rfl⟩ : ∃ z, z = u := ⟨u, rfl⟩
  obtain ⟨e2, -⟩ := hw
  have e2 : oB o2_2 ((0 + 64) + 64) (bA (bA (fun _ => false) 0 (xs 0) 64) (0 + 64) sl 64) := e2
  have hP : va_P D vwCl [(qf, .inr (7, [])), (qr, .inr (5, [.int (nI n), .int (nI d), .int (nI rn), .long lo, .long hi, .long sl, .long sh, .ref qc, .ref qs])), (qc, .inl (cJ, 1024, .inr (.inl xs))), (qb, .inr (0, [.ref qo, .int (nI ((0 + 64) + 64))])), (qo, .inl (cB, 10242, .inl o2_2))] H := hP
  have hD : va_D A [(qf, .inr (7, [])), (qr, .inr (5, [.int (nI n), .int (nI d), .int (nI rn), .long lo, .long hi, .long sl, .long sh, .ref qc, .ref qs])), (qc, .inl (cJ, 1024, .inr (.inl xs))), (qb, .inr (0, [.ref qo, .int (nI ((0 + 64) + 64))])), (qo, .inl (cB, 10242, .inl o2_2))] := hD
  refine lv_aload_n hx hb dSs_lay_26 rfl (lv_at hl 3 rfl) ?_
  refine lv_iload_n hx hb dSs_lay_27 rfl (lv_at hl 0 rfl) ?_
  refine lv_i2l hx hb dSs_lay_28 rfl ?_
  refine tp_l (show ((nI wd).toInt64) = (lN wd) from nI_l (by omega)) ?_
  refine lv_bipush (v := nI 8) hx hb dSs_lay_29 (by decide) ?_
  refine kc_v (wc := [(qb, .inr (0, [.ref qo, .int (nI ((0 + 64) + 64))])), (qo, .inl (cB, 10242, .inl o2_2))]) (wr := [(qf, .inr (7, [])), (qr, .inr (5, [.int (nI n), .int (nI d), .int (nI rn), .long lo, .long hi, .long sl, .long sh, .ref qc, .ref qs])), (qc, .inl (cJ, 1024, .inr (.inl xs)))]) hP hD hS hA [3, 4] [0, 1, 2] rfl rfl (by decide) (by decide) (by decide) (fun hPc hDc => va_runV (As := [.long (lN wd), .int (nI 8)]) (rest := []) ⟨hx, hb, hml, hown, hts⟩ (c_append l D cJ cB cI cF qb qo ((0 + 64) + 64) o2_2 (bA (bA (fun _ => false) 0 (xs 0) 64) (0 + 64) sl 64) (lN wd) 8 _ (e2) (by omega) (by omega)) (cwV 2 hts (wsG_k tw_427 (wsG_k tw_395 (wsG_k tw_396 (wsG_k tw_3 (wsG_c tw_397))))) rfl rfl rfl (by decide +kernel) ⟨Nat.le_of_ble_eq_true rfl, Nat.le_of_ble_eq_true rfl⟩) ⟨cf_blind, va_recv hK hPc (ci := 0) (q0 := 0) rfl rfl, cf_pre hPc hK hDc hWd⟩ rfl rfl hl.1 rfl (lv_room (Nat.le_of_ble_eq_true rfl)) dSs_lay_31 ⟨Nat.le_of_ble_eq_true rfl, Nat.le_of_ble_eq_true rfl⟩) (fun u H locs hw hP hD hS => ?_)
  obtain ⟨o2_3, rfl⟩ : ∃ z, z = u := ⟨u, rfl⟩
  obtain ⟨e3, -⟩ := hw
  have e3 : oB o2_3 (((0 + 64) + 64) + 8) (bA (bA (bA (fun _ => false) 0 (xs 0) 64) (0 + 64) sl 64) ((0 + 64) + 64) (lN wd) 8) := e3
  have hP : va_P D vwCl [(qf, .inr (7, [])), (qr, .inr (5, [.int (nI n), .int (nI d), .int (nI rn), .long lo, .long hi, .long sl, .long sh, .ref qc, .ref qs])), (qc, .inl (cJ, 1024, .inr (.inl xs))), (qb, .inr (0, [.ref qo, .int (nI (((0 + 64) + 64) + 8))])), (qo, .inl (cB, 10242, .inl o2_3))] H := hP
  have hD : va_D A [(qf, .inr (7, [])), (qr, .inr (5, [.int (nI n), .int (nI d), .int (nI rn), .long lo, .long hi, .long sl, .long sh, .ref qc, .ref qs])), (qc, .inl (cJ, 1024, .inr (.inl xs))), (qb, .inr (0, [.ref qo, .int (nI (((0 + 64) + 64) + 8))])), (qo, .inl (cB, 10242, .inl o2_3))] := hD
  refine lv_iconst (v := nI 1) hx hb dSs_lay_34 (by decide) ?_
  refine lv_istore (lv' := [(4, .int (nI 1)), (3, .int (nI wd)), (0, .ref qf), (1, .ref qr), (2, .ref qb)]) hx hb dSs_lay_35 hl (by decide) rfl (fun ls hl => ?_)
  have lp : ∀ (k_lp : Nat) (i : Nat) (bq : Nat) (o1 : Nat → Int32) (B1 : Nat → Bool), (1 ≤ i) → (i ≤ n) → (bq = 136 + (i - 1) * wd) → (oB o1 bq B1) → (fld B1 0 64 (xs 0)) → (fld B1 64 64 sl) → (fld B1 128 8 (lN wd)) → (∀ j, j < i - 1 → fld B1 (136 + j * wd) wd (xs (j + 1) - xs j - sl)) → (n - i < k_lp) → ∀ (H : Heap) (locs : List Loc) (ls : Array Slot), va_P D vwCl [(qf, .inr (7, [])), (qr, .inr (5, [.int (nI n), .int (nI d), .int (nI rn), .long lo, .long hi, .long sl, .long sh, .ref qc, .ref qs])), (qc, .inl (cJ, 1024, .inr (.inl xs))), (qb, .inr (0, [.ref qo, .int (nI bq)])), (qo, .inl (cB, 10242, .inl o1))] H → va_D A [(qf, .inr (7, [])), (qr, .inr (5, [.int (nI n), .int (nI d), .int (nI rn), .long lo, .long hi, .long sl, .long sh, .ref qc, .ref qs])), (qc, .inl (cJ, 1024, .inr (.inl xs))), (qb, .inr (0, [.ref qo, .int (nI bq)])), (qo, .inl (cB, 10242, .inl o1))] → va_S A s.heap H locs → lv_has ls 5 [(0, .ref qf), (1, .ref qr), (2, .ref qb), (3, .int (nI wd)), (4, .int (nI i))] → W p l e ({ frames := 4, cells := 0, slots := 0, locals := 84 }) s m ([.ref qf, .ref qr, .ref qb].toArray) below meth c H locs (0) (0) Q (F0 m 37 ls []) := by
    intro k_lp
    induction k_lp with
    | zero => intro i bq o1 B1 g0 g1 g2 g3 g4 g5 g55 g6 hfu; exact absurd hfu (by omega)
    | succ k_lp ih_lp =>
      intro i bq o1 B1 g0 g1 g2 g3 g4 g5 g55 g6 hfu H locs ls hP hD hS hl
      have hm : (i - 1) * wd ≤ 1024 * 64 := Nat.mul_le_mul (by omega) hw1
      refine lv_iload hx hb dSs_lay_37 (lv_at hl 4 rfl) ?_
      refine lv_aload_n hx hb dSs_lay_39 rfl (lv_at hl 1 rfl) ?_
      refine va_get (D := D) (ci := 5) (v := .int (nI n)) (C := "ColumnForms$Row") (T := TRo) (N := 9) hx hb hts inRo hown hK hP 1 rfl rfl 0 (by decide) (hts _ tw_39) (fun _ h9 => h9) rfl dSs_lay_40 ?_
      refine lv_icmp_ge (tgt := 77) hx hb dSs_lay_43 (by decide) (fun c43 => ?_) (fun c43 => ?_)
      · have c43 : n ≤ i := (nI_leI (by omega) (by omega)).mp c43
        exact hret (bq, o1, B1) _ _ _ _ _ _ ⟨g3, lS_of hR4.2.2.1 hR4.2.2.2 hwd (by have e : i = n := (by omega); rw [← e]; exact g2) g4 g5 g55 (fun j hj => g6 j (by omega)), by show bq ≤ _; omega, trivial⟩ (hP.sub [0, 1, 2, 3, 4] rfl) (hD.sub [0, 1, 2, 3, 4] (by decide) rfl) hS (Nat.le_of_ble_eq_true rfl) (Nat.le_of_ble_eq_true rfl) dSs_lay_77
      · have c43 : ¬ n ≤ i := fun h => c43 ((nI_leI (by omega) (by omega)).mpr h)
        refine lv_aload_n hx hb dSs_lay_46 rfl (lv_at hl 2 rfl) ?_
        refine lv_aload_n hx hb dSs_lay_47 rfl (lv_at hl 1 rfl) ?_
        refine lv_iload hx hb dSs_lay_48 (lv_at hl 4 rfl) ?_
        refine kc_l (wc := [(qr, .inr (5, [.int (nI n), .int (nI d), .int (nI rn), .long lo, .long hi, .long sl, .long sh, .ref qc, .ref qs])), (qc, .inl (cJ, 1024, .inr (.inl xs)))]) (wr := [(qf, .inr (7, [])), (qb, .inr (0, [.ref qo, .int (nI bq)])), (qo, .inl (cB, 10242, .inl o1))]) hP hD hS hA [1, 2] [0, 3, 4] rfl rfl (by decide) (by decide) (by decide) (fun hPc hDc => va_runV (As := [.int (nI i)]) (rest := [.ref qb]) ⟨hx, hb, hml, hown, hts⟩ (c_at l D cJ cB cI cF qr n d rn lo hi sl sh qc qs xs i _ (by omega) (by omega)) (cwV 1 hts (wsG_k tw_426 (wsG_k tw_257 (wsG_k tw_258 (wsG_k tw_2 (wsG_c tw_259))))) rfl rfl rfl (by decide +kernel) ⟨Nat.le_of_ble_eq_true rfl, Nat.le_of_ble_eq_true rfl⟩) ⟨cf_blind, va_recv hK hPc (ci := 5) (q0 := 0) rfl rfl, cf_pre hPc hK hDc hWd⟩ rfl rfl hl.1 rfl (lv_room (Nat.le_of_ble_eq_true rfl)) dSs_lay_50 ⟨Nat.le_of_ble_eq_true rfl, Nat.le_of_ble_eq_true rfl⟩) (fun r u H locs hw hP hD hS => ?_)
        obtain ⟨rfl, -⟩ := hw
        have hP : va_P D vwCl [(qf, .inr (7, [])), (qb, .inr (0, [.ref qo, .int (nI bq)])), (qo, .inl (cB, 10242, .inl o1)), (qr, .inr (5, [.int (nI n), .int (nI d), .int (nI rn), .long lo, .long hi, .long sl, .long sh, .ref qc, .ref qs])), (qc, .inl (cJ, 1024, .inr (.inl xs)))] H := hP
        have hD : va_D A [(qf, .inr (7, [])), (qb, .inr (0, [.ref qo, .int (nI bq)])), (qo, .inl (cB, 10242, .inl o1)), (qr, .inr (5, [.int (nI n), .int (nI d), .int (nI rn), .long lo, .long hi, .long sl, .long sh, .ref qc, .ref qs])), (qc, .inl (cJ, 1024, .inr (.inl xs)))] := hD
        refine lv_aload_n hx hb dSs_lay_53 rfl (lv_at hl 1 rfl) ?_
        refine lv_iload hx hb dSs_lay_54 (lv_at hl 4 rfl) ?_
        refine lv_iconst (v := nI 1) hx hb dSs_lay_56 (by decide) ?_
        refine lv_isub hx hb dSs_lay_57 ?_
        refine tp_i (show ((nI i) - (nI 1)) = (nI (i - 1)) from pk_sub (by omega)) ?_
        refine kc_l (wc := [(qr, .inr (5, [.int (nI n), .int (nI d), .int (nI rn), .long lo, .long hi, .long sl, .long sh, .ref qc, .ref qs])), (qc, .inl (cJ, 1024, .inr (.inl xs)))]) (wr := [(qf, .inr (7, [])), (qb, .inr (0, [.ref qo, .int (nI bq)])), (qo, .inl (cB, 10242, .inl o1))]) hP hD hS hA [3, 4] [0, 1, 2] rfl rfl (by decide) (by decide) (by decide) (fun hPc hDc => va_runV (As := [.int (nI (i - 1))]) (rest := [.long (xs i), .ref qb]) ⟨hx, hb, hml, hown, hts⟩ (c_at l D cJ cB cI cF qr n d rn lo hi sl sh qc qs xs (i - 1) _ (by omega) (by omega)) (cwV 1 hts (wsG_k tw_426 (wsG_k tw_257 (wsG_k tw_258 (wsG_k tw_2 (wsG_c tw_259))))) rfl rfl rfl (by decide +kernel) ⟨Nat.le_of_ble_eq_true rfl, Nat.le_of_ble_eq_true rfl⟩) ⟨cf_blind, va_recv hK hPc (ci := 5) (q0 := 0) rfl rfl, cf_pre hPc hK hDc hWd⟩ rfl rfl hl.1 rfl (lv_room (Nat.le_of_ble_eq_true rfl)) dSs_lay_58 ⟨Nat.le_of_ble_eq_true rfl, Nat.le_of_ble_eq_true rfl⟩) (fun r u H locs hw hP hD hS => ?_)
        obtain ⟨rfl, -⟩ := hw
        have hP : va_P D vwCl [(qf, .inr (7, [])), (qb, .inr (0, [.ref qo, .int (nI bq)])), (qo, .inl (cB, 10242, .inl o1)), (qr, .inr (5, [.int (nI n), .int (nI d), .int (nI rn), .long lo, .long hi, .long sl, .long sh, .ref qc, .ref qs])), (qc, .inl (cJ, 1024, .inr (.inl xs)))] H := hP
        have hD : va_D A [(qf, .inr (7, [])), (qb, .inr (0, [.ref qo, .int (nI bq)])), (qo, .inl (cB, 10242, .inl o1)), (qr, .inr (5, [.int (nI n), .int (nI d), .int (nI rn), .long lo, .long hi, .long sl, .long sh, .ref qc, .ref qs])), (qc, .inl (cJ, 1024, .inr (.inl xs)))] := hD
        refine lv_lsub hx hb dSs_lay_61 ?_
        refine lv_aload_n hx hb dSs_lay_62 rfl (lv_at hl 1 rfl) ?_
        refine va_get (D := D) (ci := 5) (v := .long sl) (C := "ColumnForms$Row") (T := TRo) (N := 9) hx hb hts inRo hown hK hP 3 rfl rfl 5 (by decide) (hts _ tw_51) (fun _ h9 => h9) rfl dSs_lay_63 ?_
        refine lv_lsub hx hb dSs_lay_66 ?_
        refine lv_iload_n hx hb dSs_lay_67 rfl (lv_at hl 3 rfl) ?_
        refine kc_v (wc := [(qb, .inr (0, [.ref qo, .int (nI bq)])), (qo, .inl (cB, 10242, .inl o1))]) (wr := [(qf, .inr (7, [])), (qr, .inr (5, [.int (nI n), .int (nI d), .int (nI rn), .long lo, .long hi, .long sl, .long sh, .ref qc, .ref qs])), (qc, .inl (cJ, 1024, .inr (.inl xs)))]) hP hD hS hA [1, 2] [0, 3, 4] rfl rfl (by decide) (by decide) (by decide) (fun hPc hDc => va_runV (As := [.long (((xs i) - (xs (i - 1))) - sl), .int (nI wd)]) (rest := []) ⟨hx, hb, hml, hown, hts⟩ (c_append l D cJ cB cI cF qb qo bq o1 B1 (((xs i) - (xs (i - 1))) - sl) wd _ (g3) (hw1) (by omega)) (cwV 2 hts (wsG_k tw_427 (wsG_k tw_395 (wsG_k tw_396 (wsG_k tw_3 (wsG_c tw_397))))) rfl rfl rfl (by decide +kernel) ⟨Nat.le_of_ble_eq_true rfl, Nat.le_of_ble_eq_true rfl⟩) ⟨cf_blind, va_recv hK hPc (ci := 0) (q0 := 0) rfl rfl, cf_pre hPc hK hDc hWd⟩ rfl rfl hl.1 rfl (lv_room (Nat.le_of_ble_eq_true rfl)) dSs_lay_68 ⟨Nat.le_of_ble_eq_true rfl, Nat.le_of_ble_eq_true rfl⟩) (fun u H locs hw hP hD hS => ?_)
        obtain ⟨o2_4, rfl⟩ : ∃ z, z = u := ⟨u, rfl⟩
        obtain ⟨f9, -⟩ := hw
        have f9 : oB o2_4 (bq + wd) (bA B1 bq (((xs i) - (xs (i - 1))) - sl) wd) := f9
        have hP : va_P D vwCl [(qf, .inr (7, [])), (qr, .inr (5, [.int (nI n), .int (nI d), .int (nI rn), .long lo, .long hi, .long sl, .long sh, .ref qc, .ref qs])), (qc, .inl (cJ, 1024, .inr (.inl xs))), (qb, .inr (0, [.ref qo, .int (nI (bq + wd))])), (qo, .inl (cB, 10242, .inl o2_4))] H := hP
        have hD : va_D A [(qf, .inr (7, [])), (qr, .inr (5, [.int (nI n), .int (nI d), .int (nI rn), .long lo, .long hi, .long sl, .long sh, .ref qc, .ref qs])), (qc, .inl (cJ, 1024, .inr (.inl xs))), (qb, .inr (0, [.ref qo, .int (nI (bq + wd))])), (qo, .inl (cB, 10242, .inl o2_4))] := hD
        refine lv_iinc (v := nI (i + 1)) (lv' := [(4, .int (nI (i + 1))), (0, .ref qf), (1, .ref qr), (2, .ref qb), (3, .int (nI wd))]) hx hb dSs_lay_71 hl (k := 4) rfl (by rw [show (Int32.ofInt 1) = nI 1 from by decide]; exact nI_add _ _) (by decide) rfl (fun ls hl => ?_)
        refine lv_goto (tgt := 37) hx hb dSs_lay_74 (by decide) ?_
        exact ih_lp (i + 1) (bq + wd) o2_4 (bA B1 bq (xs i - xs (i - 1) - sl) wd) (by omega) (by omega) (by rw [show i + 1 - 1 = (i - 1) + 1 by omega, Nat.succ_mul]; omega) (f9) (fld_keep g4 (by omega)) (fld_keep g5 (by omega)) (fld_keep g55 (by omega)) (by rw [show i + 1 - 1 = (i - 1) + 1 by omega]; exact fld_add (a := fun j => 136 + j * wd) (wd := fun _ => wd) (vl := fun j => xs (j + 1) - xs j - sl) g6 (fun j hj => by have := mul_lo (w := wd) hj; show 136 + j * wd + wd ≤ bq; omega) (by show 136 + (i - 1) * wd = bq; omega) (by show xs (i - 1 + 1) - xs (i - 1) - sl = _; rw [show i - 1 + 1 = i by omega]) rfl) (by omega) _ _ _ (hP.sub [0, 1, 2, 3, 4] rfl) (hD.sub [0, 1, 2, 3, 4] (by decide) rfl) hS (lv_sub hl [1, 2, 3, 4, 0] rfl)
  exact lp (n - 1 + 1) 1 (((0 + 64) + 64) + 8) o2_3 (bA (bA (bA (fun _ => false) 0 (xs 0) 64) (0 + 64) sl 64) (0 + 64 + 64) (lN wd) 8) (by omega) (by omega) (by omega) (e3) (fld_keep (fld_keep (bA_fld _ _ _ _) (by omega)) (by omega)) (fld_keep (bA_fld _ _ _ _) (by omega)) (bA_fld _ _ _ _) (fun j hj => absurd hj (by omega)) (by omega) _ _ _ (hP.sub [0, 1, 2, 3, 4] rfl) (hD.sub [0, 1, 2, 3, 4] (by decide) rfl) hS (lv_sub hl [2, 3, 4, 1, 0] rfl)
end
section
theorem l_lc (a b c : Int64) : a + (b + c) = b + (a + c) := by rw [← Int64.add_assoc, Int64.add_comm a b, Int64.add_assoc]
/-- a step taken back: x = a + (s + (x - a - s)) -/
theorem l_st1 (x a s : Int64) : a + (s + (x - a - s)) = x := by
  rw [Int64.add_comm s, Int64.sub_add_cancel, Int64.add_comm, Int64.sub_add_cancel]
theorem l_m2 (x : Int64) (k : Nat) : lN (k + 1) * x = lN k * x + x := by rw [Int64.mul_comm, l_m1, Int64.mul_comm]
theorem l_st2 (x a s : Int64) (k : Nat) : a + lN (k + 1) * s + (x - a - s) = x + lN k * s := by
  rw [l_m2, Int64.add_assoc, Int64.add_assoc, l_lc, l_st1, Int64.add_comm]
theorem st_0 {xs : Nat → Int64} {s : Int64} (i : Nat) : xs 0 + lN i * s = xs 0 + lN (i - 0) * s := rfl
theorem st_n {xs : Nat → Int64} {s v : Int64} {i j : Nat} (h : v = xs j + lN (i - j) * s) (hj : j < i) : v + (xs (j + 1) - xs j - s) = xs (j + 1) + lN (i - (j + 1)) * s := by
  rw [h, show i - j = (i - (j + 1)) + 1 by omega]
  exact l_st2 _ _ _ _
theorem st_e {xs : Nat → Int64} {s v : Int64} {i j : Nat} (h : v = xs j + lN (i - j) * s) (hj : j = i) : v = xs i := by
  subst hj
  rw [h, Nat.sub_self, show lN 0 = 0 from rfl, Int64.zero_mul, Int64.add_zero]
/-! lists -/
theorem nO_le (pl : Nat → Nat) (j : Nat) : ∀ n, nO pl n j ≤ n
  | 0 => Nat.le_refl 0
  | n + 1 => by
    show nO pl n j + _ ≤ n + 1
    have := nO_le pl j n
    split <;> omega
theorem nO_step {pl : Nat → Nat} {g : Nat → Int32} {i : Nat} (h : ∀ j, j < 1024 → g j = nI (nO pl i j)) (hp : pl i < 1024) : ∀ j, j < 1024 → upd g (pl i) (g (pl i) + nI 1) j = nI (nO pl (i + 1) j) := fun j hj => by
  show _ = nI (nO pl i j + (if pl i = j then 1 else 0))
  by_cases q : j = pl i
  · subst q
    rw [pk_us, h _ hj, if_pos rfl]; exact nI_add _ _
  · rw [pk_un q, h j hj, if_neg (fun e => q e.symm), Nat.add_zero]
theorem nO_0 {pl : Nat → Nat} {g : Nat → Int32} (h : ∀ j, j < 1024 → g j = 0) : ∀ j, j < 1024 → g j = nI (nO pl 0 j) := fun j hj => h j hj
def lCn (P : Int64 → Bool) (rs : Nat → Int64) (pl : Nat → Nat) (n : Nat) : Nat → Nat := sN (fun p => if P (rs p) then nO pl n p else 0)
def lSm (P : Int64 → Bool) (rs : Nat → Int64) (pl : Nat → Nat) (n : Nat) : Nat → Int64 := sL (fun p => if P (rs p) then rs p * lN (nO pl n p) else 0)
theorem askL_c {P : Int64 → Bool} {rs : Nat → Int64} {pl : Nat → Nat} {n k : Nat} {h h1 h2 : Int32} (e : h1 = h + nI (lCn P rs pl n k)) (f : h2 = h1 + (if P (rs k) then nI (nO pl n k) else 0)) : h2 = h + nI (lCn P rs pl n (k + 1)) := by
  rw [f, e, Int32.add_assoc]
  congr 1
  show _ = nI (lCn P rs pl n k + (if P (rs k) then nO pl n k else 0))
  by_cases q : P (rs k) = true
  · rw [if_pos q, if_pos q]; exact nI_add _ _
  · rw [if_neg q, if_neg q]; exact Int32.add_zero _
theorem askL_s {P : Int64 → Bool} {rs : Nat → Int64} {pl : Nat → Nat} {n k : Nat} {t t1 t2 : Int64} (hn : n ≤ 1024) (e : t1 = t + lSm P rs pl n k) (f : t2 = t1 + (if P (rs k) then rs k * (nI (nO pl n k)).toInt64 else 0)) : t2 = t + lSm P rs pl n (k + 1) := by
  have hz := nO_le pl k n
  rw [nI_l (by omega)] at f
  rw [f, e, Int64.add_assoc]
  rfl
/-! runs -/
theorem rDc_le {xs : Nat → Int64} {sb : Nat → Nat} {k : Nat} (h : rDc xs sb k) : ∀ m, m ≤ k → m ≤ sb m
  | 0, _ => Nat.zero_le _
  | m + 1, hm => by
    have h1 := rDc_le h m (by omega)
    have h2 := h.2.1 m (by omega)
    omega
theorem rDc_mono {xs : Nat → Int64} {sb : Nat → Nat} {k : Nat} (h : rDc xs sb k) {a : Nat} : ∀ b, a ≤ b → b ≤ k → sb a ≤ sb b
  | 0, h1, _ => by rw [show a = 0 by omega]; exact Nat.le_refl _
  | b + 1, h1, h2 => by
    by_cases e : a = b + 1
    · rw [e]; exact Nat.le_refl _
    · exact Nat.le_trans (rDc_mono h b (by omega) (by omega)) (Nat.le_of_lt (h.2.1 b (by omega)))
def rSt (xs : Nat → Int64) (n i st k : Nat) (sb : Nat → Nat) : Prop := rDc xs sb k ∧ sb k = st ∧ (i ≤ n → st < i ∧ ∀ j, st ≤ j → j < i → xs j = xs st) ∧ (i = n + 1 → st = n) ∧ (0 < k → st < n → ¬ xs st = xs (sb (k - 1))) ∧ st ≤ n
theorem rSt_0 {xs : Nat → Int64} {n : Nat} (h : 0 < n) : rSt xs n 1 0 0 (fun _ => 0) := ⟨rDc_0 xs, rfl, fun _ => ⟨by omega, fun j h1 h2 => by rw [show j = 0 by omega]⟩, fun e => by omega, fun e => absurd e (by omega), by omega⟩
theorem rSt_run {xs : Nat → Int64} {n i st k : Nat} {sb : Nat → Nat} (h : rSt xs n i st k sb) (hi : i ≤ n) (hc : i = n ∨ ¬ xs i = xs st) : rSt xs n (i + 1) i (k + 1) (nUp sb (k + 1) i) := by
  obtain ⟨h1, h2, h3, h4, h5, h6⟩ := h
  obtain ⟨h7, h8⟩ := h3 hi
  refine ⟨rDc_add h1 h2 h7 h8 (fun hk => h5 hk (by omega)), nUp_s, fun hn => ⟨by omega, fun j q1 q2 => by rw [show j = i by omega]⟩, fun e => by omega, fun _ hn => ?_, hi⟩
  rcases hc with e | e
  · omega
  · rw [show k + 1 - 1 = k by omega, nUp_n (by omega), h2]; exact e
theorem rSt_same {xs : Nat → Int64} {n i st k : Nat} {sb : Nat → Nat} (h : rSt xs n i st k sb) (hi : i < n) (hc : xs i = xs st) : rSt xs n (i + 1) st k sb := by
  obtain ⟨h1, h2, h3, h4, h5, h6⟩ := h
  obtain ⟨h7, h8⟩ := h3 (by omega)
  refine ⟨h1, h2, fun hn => ⟨by omega, fun j q1 q2 => ?_⟩, fun e => by omega, h5, h6⟩
  by_cases e : j = i
  · rw [e]; exact hc
  · exact h8 j q1 (by omega)
theorem rSt_k {xs : Nat → Int64} {n i st k : Nat} {sb : Nat → Nat} (h : rSt xs n i st k sb) : k ≤ st := by
  have := rDc_le h.1 k (Nat.le_refl k)
  rw [h.2.1] at this
  exact this
theorem rSt_end {xs : Nat → Int64} {n st k : Nat} {sb : Nat → Nat} (h : rSt xs n (n + 1) st k sb) : sb k = n ∧ rRn xs n = k := by
  have e : sb k = n := by rw [h.2.1]; exact h.2.2.2.1 rfl
  exact ⟨e, by rw [← e]; exact rDc_n k h.1⟩
theorem fld_nUp {B : Nat → Bool} {xs : Nat → Int64} {sb : Nat → Nat} {k i : Nat} (h : ∀ m, m < k → fld B (16 + 80 * m) 64 (xs (sb m))) : ∀ m, m < k → fld B (16 + 80 * m) 64 (xs (nUp sb (k + 1) i m)) := fun m hm => by
  rw [nUp_n (by omega)]; exact h m hm
theorem fld_nUp2 {B : Nat → Bool} {sb : Nat → Nat} {k i : Nat} (h : ∀ m, m < k → fld B (16 + 80 * m + 64) 16 (lN (sb (m + 1) - sb m))) : ∀ m, m < k → fld B (16 + 80 * m + 64) 16 (lN (nUp sb (k + 1) i (m + 1) - nUp sb (k + 1) i m)) := fun m hm => by
  rw [nUp_n (by omega), nUp_n (by omega)]; exact h m hm
theorem lR_of {xs : Nat → Int64} {n bc rn st k : Nat} {sb : Nat → Nat} {B : Nat → Bool} (h : rSt xs n (n + 1) st k sb) (hr : rn = rRn xs n) (h1 : bc = 16 + 80 * k) (h2 : fld B 0 16 (lN rn)) (h3 : ∀ m, m < k → fld B (16 + 80 * m) 64 (xs (sb m))) (h4 : ∀ m, m < k → fld B (16 + 80 * m + 64) 16 (lN (sb (m + 1) - sb m))) : lR xs n bc B := by
  obtain ⟨e1, e2⟩ := rSt_end h
  rw [hr] at h2
  refine ⟨sb, ?_⟩
  rw [e2] at h2 ⊢
  exact ⟨h.1, e1, h1, h2, h3, h4⟩
theorem nC_run {P : Int64 → Bool} {xs : Nat → Int64} {sb : Nat → Nat} {k m : Nat} (h : rDc xs sb k) (hm : m < k) : nC P xs (sb (m + 1)) = nC P xs (sb m) + (if P (xs (sb m)) then sb (m + 1) - sb m else 0) := by
  have h1 := h.2.1 m hm
  have h2 := nC_same (P := P) (xs := xs) (a := sb m) (v := xs (sb m)) (sb (m + 1) - sb m) (fun j q1 q2 => h.2.2.1 m hm j q1 (by omega))
  rw [show sb m + (sb (m + 1) - sb m) = sb (m + 1) by omega] at h2
  exact h2
theorem nS_run {P : Int64 → Bool} {xs : Nat → Int64} {sb : Nat → Nat} {k m : Nat} (h : rDc xs sb k) (hm : m < k) : nS P xs (sb (m + 1)) = nS P xs (sb m) + (if P (xs (sb m)) then xs (sb m) * lN (sb (m + 1) - sb m) else 0) := by
  have h1 := h.2.1 m hm
  have h2 := nS_same (P := P) (xs := xs) (a := sb m) (v := xs (sb m)) (sb (m + 1) - sb m) (fun j q1 q2 => h.2.2.1 m hm j q1 (by omega))
  rw [show sb m + (sb (m + 1) - sb m) = sb (m + 1) by omega] at h2
  exact h2
theorem askR_c {P : Int64 → Bool} {xs : Nat → Int64} {sb : Nat → Nat} {k m : Nat} {h0 h1 h2 : Int32} (h : rDc xs sb k) (hm : m < k) (e : h1 = h0 + nI (nC P xs (sb m))) (f : h2 = h1 + (if P (xs (sb m)) then nI (sb (m + 1) - sb m) else 0)) : h2 = h0 + nI (nC P xs (sb (m + 1))) := by
  rw [f, e, Int32.add_assoc, nC_run h hm]
  congr 1
  by_cases q : P (xs (sb m)) = true
  · rw [if_pos q, if_pos q]; exact nI_add _ _
  · rw [if_neg q, if_neg q]; exact Int32.add_zero _
theorem askR_s {P : Int64 → Bool} {xs : Nat → Int64} {sb : Nat → Nat} {k m : Nat} {t0 t1 t2 : Int64} (h : rDc xs sb k) (hm : m < k) (hs : sb (m + 1) ≤ 1024) (e : t1 = t0 + nS P xs (sb m)) (f : t2 = t1 + (if P (xs (sb m)) then xs (sb m) * (nI (sb (m + 1) - sb m)).toInt64 else 0)) : t2 = t0 + nS P xs (sb (m + 1)) := by
  rw [nI_l (by omega)] at f
  rw [f, e, Int64.add_assoc, nS_run h hm]
end
section
set_option maxHeartbeats 4000000 in
set_option maxRecDepth 100000 in
theorem c_ssI (l : Launch) (D : va_G) (cJ cB cI cF : ClassId) (qb : Nat) (qo : Nat) (bc : Nat) (o : Nat → Int32) (B : Nat → Bool) (wd : Nat) (sz : Nat) (hc : oB o bc B) (hbm : bc ≤ 81936) (hb0 : 136 ≤ bc) (hf : fld B 128 8 (lN wd)) (hw1 : wd ≤ 64) : Met l ySs_widthIn (Cond.code ySs_widthIn cSs_widthIn 1 (some .int) :: wsG) ({ frames := 2, cells := 0, slots := 0, locals := 51 }) (va_Pc [.ref qb] (cfPre D (cfT cJ cB cI cF) [(qb, .inr (0, [.ref qo, .int (nI bc)])), (qo, .inl (cB, 10242, .inl o))] sz)) (va_Qi (fun (r : Int32) (u : Unit) => r = nI wd ∧ True) (fun u t => cfPost D ((fun (u : Unit) => [(qb, .inr (0, [.ref qo, .int (nI bc)])), (qo, .inl (cB, 10242, .inl o))]) u) (va_A [(qb, .inr (0, [.ref qo, .int (nI bc)])), (qo, .inl (cB, 10242, .inl o))] sz) t) (va_A [(qb, .inr (0, [.ref qo, .int (nI bc)])), (qo, .inl (cB, 10242, .inl o))] sz)) 0 0 (va_A [(qb, .inr (0, [.ref qo, .int (nI bc)])), (qo, .inl (cB, 10242, .inl o))] sz) := by
  refine met_i (cc := cSs_widthIn) (maxL := 1) (S := Unit) (D := D) (wO := fun (u : Unit) => [(qb, .inr (0, [.ref qo, .int (nI bc)])), (qo, .inl (cB, 10242, .inl o))]) (by decide) (Nat.le_of_ble_eq_true rfl) ?_
  intro p e s m below meth c hx hb hml hown hts hlocks hin hWd A hA hsz hP hK hD hS Q hret ls hl
  have hown : s.vm.findClass "ColumnForms$Steps" = some m.cls := hown
  have hl : lv_has ls 1 [(0, .ref qb)] := hl
  have hP : va_P D vwCl [(qb, .inr (0, [.ref qo, .int (nI bc)])), (qo, .inl (cB, 10242, .inl o))] s.heap := hP
  refine lv_aload_n hx hb dSs_widthIn_0 rfl (lv_at hl 0 rfl) ?_
  refine lv_sipush (v := nI 128) hx hb dSs_widthIn_1 (by decide) ?_
  refine lv_bipush (v := nI 8) hx hb dSs_widthIn_4 (by decide) ?_
  refine kc_l (wc := [(qb, .inr (0, [.ref qo, .int (nI bc)])), (qo, .inl (cB, 10242, .inl o))]) (wr := []) hP hD hS hA [0, 1] [] rfl rfl (by decide) (by decide) (by decide) (fun hPc hDc => va_runV (As := [.int (nI 128), .int (nI 8)]) (rest := []) ⟨hx, hb, hml, hown, hts⟩ (c_bitsAt l D cJ cB cI cF qb qo bc o B 128 8 (lN wd) _ (hc) (hbm) (by omega) (by omega) (hf) (lN_small (Nat.lt_of_le_of_lt hw1 (by decide)) (by omega))) (cwV 2 hts (wsG_k tw_499 (wsG_k tw_465 (wsG_k tw_466 (wsG_k tw_3 (wsG_c tw_467))))) rfl rfl rfl (by decide +kernel) ⟨Nat.le_of_ble_eq_true rfl, Nat.le_of_ble_eq_true rfl⟩) ⟨cf_blind, va_recv hK hPc (ci := 0) (q0 := 0) rfl rfl, cf_pre hPc hK hDc hWd⟩ rfl rfl hl.1 rfl (lv_room (Nat.le_of_ble_eq_true rfl)) dSs_widthIn_6 ⟨Nat.le_of_ble_eq_true rfl, Nat.le_of_ble_eq_true rfl⟩) (fun r u H locs hw hP hD hS => ?_)
  obtain ⟨rfl, -⟩ := hw
  have hP : va_P D vwCl [(qb, .inr (0, [.ref qo, .int (nI bc)])), (qo, .inl (cB, 10242, .inl o))] H := hP
  have hD : va_D A [(qb, .inr (0, [.ref qo, .int (nI bc)])), (qo, .inl (cB, 10242, .inl o))] := hD
  refine lv_l2i hx hb dSs_widthIn_9 rfl ?_
  refine tp_i (show ((lN wd).toInt32) = (nI wd) from lN_i _) ?_
  exact hret (nI wd) () _ _ _ _ _ _ ⟨rfl, trivial⟩ (hP.sub [0, 1] rfl) (hD.sub [0, 1] (by decide) rfl) hS (Nat.le_of_ble_eq_true rfl) (Nat.le_of_ble_eq_true rfl) dSs_widthIn_10

set_option maxHeartbeats 4000000 in
set_option maxRecDepth 100000 in
theorem c_ssR (l : Launch) (D : va_G) (cJ cB cI cF : ClassId) (qf : Nat) (qb : Nat) (qo : Nat) (bc : Nat) (o : Nat → Int32) (B : Nat → Bool) (xs : Nat → Int64) (n : Nat) (i : Nat) (sz : Nat) (hc : oB o bc B) (hbm : bc ≤ 81936) (hn : n ≤ 1024) (hL : lS xs n bc B) (hi1 : i < n) : Met l ySs_read (Cond.code ySs_read cSs_read 7 (some .long) :: wsG) ({ frames := 3, cells := 0, slots := 0, locals := 71 }) (va_Pc [.ref qf, .ref qb, .int (nI i)] (cfPre D (cfT cJ cB cI cF) [(qf, .inr (7, [])), (qb, .inr (0, [.ref qo, .int (nI bc)])), (qo, .inl (cB, 10242, .inl o))] sz)) (va_Ql (fun (r : Int64) (u : Unit) => r = xs i ∧ True) (fun u t => cfPost D ((fun (u : Unit) => [(qf, .inr (7, [])), (qb, .inr (0, [.ref qo, .int (nI bc)])), (qo, .inl (cB, 10242, .inl o))]) u) (va_A [(qf, .inr (7, [])), (qb, .inr (0, [.ref qo, .int (nI bc)])), (qo, .inl (cB, 10242, .inl o))] sz) t) (va_A [(qf, .inr (7, [])), (qb, .inr (0, [.ref qo, .int (nI bc)])), (qo, .inl (cB, 10242, .inl o))] sz)) 0 0 (va_A [(qf, .inr (7, [])), (qb, .inr (0, [.ref qo, .int (nI bc)])), (qo, .inl (cB, 10242, .inl o))] sz) := by
  refine met_l (cc := cSs_read) (maxL := 7) (S := Unit) (D := D) (wO := fun (u : Unit) => [(qf, .inr (7, [])), (qb, .inr (0, [.ref qo, .int (nI bc)])), (qo, .inl (cB, 10242, .inl o))]) (by decide) (Nat.le_of_ble_eq_true rfl) ?_
  intro p e s m below meth c hx hb hml hown hts hlocks hin hWd A hA hsz hP hK hD hS Q hret ls hl
  have hown : s.vm.findClass "ColumnForms$Steps" = some m.cls := hown
  have hl : lv_has ls 7 [(0, .ref qf), (1, .ref qb), (2, .int (nI i))] := hl
  have hP : va_P D vwCl [(qf, .inr (7, [])), (qb, .inr (0, [.ref qo, .int (nI bc)])), (qo, .inl (cB, 10242, .inl o))] s.heap := hP
  have k1 := hL.1
  have k2 := hL.2.1
  have k3 := hL.2.2.1
  have k4 := hL.2.2.2.1
  have k5 := hL.2.2.2.2
  have hw1 := wS_le xs n
  refine lv_aload_n hx hb dSs_read_0 rfl (lv_at hl 1 rfl) ?_
  refine kc_i (wc := [(qb, .inr (0, [.ref qo, .int (nI bc)])), (qo, .inl (cB, 10242, .inl o))]) (wr := [(qf, .inr (7, []))]) hP hD hS hA [1, 2] [0] rfl rfl (by decide) (by decide) (by decide) (fun hPc hDc => va_runS (As := [.ref qb]) (rest := []) ⟨hx, hb, hml, hown, hts⟩ (c_ssI l D cJ cB cI cF qb qo bc o B (wS xs n) _ (hc) (hbm) (by omega) (k4) (hw1)) (va_cwS 1 hts (wsG_k tw_496 (wsG_k tw_497 (wsG_k tw_9 (wsG_c tw_498)))) rfl rfl rfl (by decide +kernel) ⟨Nat.le_of_ble_eq_true rfl, Nat.le_of_ble_eq_true rfl⟩) ⟨cf_blind, cf_pre hPc hK hDc hWd⟩ rfl rfl hl.1 rfl (lv_room (Nat.le_of_ble_eq_true rfl)) dSs_read_1 ⟨Nat.le_of_ble_eq_true rfl, Nat.le_of_ble_eq_true rfl⟩) (fun r u H locs hw hP hD hS => ?_)
  obtain ⟨rfl, -⟩ := hw
  have hP : va_P D vwCl [(qf, .inr (7, [])), (qb, .inr (0, [.ref qo, .int (nI bc)])), (qo, .inl (cB, 10242, .inl o))] H := hP
  have hD : va_D A [(qf, .inr (7, [])), (qb, .inr (0, [.ref qo, .int (nI bc)])), (qo, .inl (cB, 10242, .inl o))] := hD
  refine lv_istore_n (lv' := [(3, .int (nI (wS xs n))), (0, .ref qf), (1, .ref qb), (2, .int (nI i))]) hx hb dSs_read_4 rfl hl (by decide) rfl (fun ls hl => ?_)
  refine lv_aload_n hx hb dSs_read_5 rfl (lv_at hl 2 rfl) ?_
  refine lv_iconst (v := nI 0) hx hb dSs_read_6 (by decide) ?_
  refine lv_bipush (v := nI 64) hx hb dSs_read_7 (by decide) ?_
  refine kc_l (wc := [(qb, .inr (0, [.ref qo, .int (nI bc)])), (qo, .inl (cB, 10242, .inl o))]) (wr := [(qf, .inr (7, []))]) hP hD hS hA [1, 2] [0] rfl rfl (by decide) (by decide) (by decide) (fun hPc hDc => va_runV (As := [.int (nI 0), .int (nI 64)]) (rest := []) ⟨hx, hb, hml, hown, hts⟩ (c_bitsAt l D cJ cB cI cF qb qo bc o B 0 64 (xs 0) _ (hc) (hbm) (by omega) (by omega) (k2) (bL_64)) (cwV 2 hts (wsG_k tw_499 (wsG_k tw_465 (wsG_k tw_466 (wsG_k tw_3 (wsG_c tw_467))))) rfl rfl rfl (by decide +kernel) ⟨Nat.le_of_ble_eq_true rfl, Nat.le_of_ble_eq_true rfl⟩) ⟨cf_blind, va_recv hK hPc (ci := 0) (q0 := 0) rfl rfl, cf_pre hPc hK hDc hWd⟩ rfl rfl hl.1 rfl (lv_room (Nat.le_of_ble_eq_true rfl)) dSs_read_9 ⟨Nat.le_of_ble_eq_true rfl, Nat.le_of_ble_eq_true rfl⟩) (fun r u H locs hw hP hD hS => ?_)
  obtain ⟨rfl, -⟩ := hw
  have hP : va_P D vwCl [(qf, .inr (7, [])), (qb, .inr (0, [.ref qo, .int (nI bc)])), (qo, .inl (cB, 10242, .inl o))] H := hP
  have hD : va_D A [(qf, .inr (7, [])), (qb, .inr (0, [.ref qo, .int (nI bc)])), (qo, .inl (cB, 10242, .inl o))] := hD
  refine lv_iload_n hx hb dSs_read_12 rfl (lv_at hl 3 rfl) ?_
  refine lv_i2l hx hb dSs_read_13 rfl ?_
  refine tp_l (show ((nI i).toInt64) = (lN i) from nI_l (by omega)) ?_
  refine lv_aload_n hx hb dSs_read_14 rfl (lv_at hl 2 rfl) ?_
  refine lv_bipush (v := nI 64) hx hb dSs_read_15 (by decide) ?_
  refine lv_bipush (v := nI 64) hx hb dSs_read_17 (by decide) ?_
  refine kc_l (wc := [(qb, .inr (0, [.ref qo, .int (nI bc)])), (qo, .inl (cB, 10242, .inl o))]) (wr := [(qf, .inr (7, []))]) hP hD hS hA [1, 2] [0] rfl rfl (by decide) (by decide) (by decide) (fun hPc hDc => va_runV (As := [.int (nI 64), .int (nI 64)]) (rest := [.long (lN i), .long (xs 0)]) ⟨hx, hb, hml, hown, hts⟩ (c_bitsAt l D cJ cB cI cF qb qo bc o B 64 64 (sLo xs n) _ (hc) (hbm) (by omega) (by omega) (k3) (bL_64)) (cwV 2 hts (wsG_k tw_499 (wsG_k tw_465 (wsG_k tw_466 (wsG_k tw_3 (wsG_c tw_467))))) rfl rfl rfl (by decide +kernel) ⟨Nat.le_of_ble_eq_true rfl, Nat.le_of_ble_eq_true rfl⟩) ⟨cf_blind, va_recv hK hPc (ci := 0) (q0 := 0) rfl rfl, cf_pre hPc hK hDc hWd⟩ rfl rfl hl.1 rfl (lv_room (Nat.le_of_ble_eq_true rfl)) dSs_read_19 ⟨Nat.le_of_ble_eq_true rfl, Nat.le_of_ble_eq_true rfl⟩) (fun r u H locs hw hP hD hS => ?_)
  obtain ⟨rfl, -⟩ := hw
  have hP : va_P D vwCl [(qf, .inr (7, [])), (qb, .inr (0, [.ref qo, .int (nI bc)])), (qo, .inl (cB, 10242, .inl o))] H := hP
  have hD : va_D A [(qf, .inr (7, [])), (qb, .inr (0, [.ref qo, .int (nI bc)])), (qo, .inl (cB, 10242, .inl o))] := hD
  refine lv_lmul hx hb dSs_read_22 ?_
  refine lv_ladd hx hb dSs_read_23 ?_
  refine lv_lstore (lv' := [(4, .long ((xs 0) + ((lN i) * (sLo xs n)))), (3, .int (nI (wS xs n))), (0, .ref qf), (1, .ref qb), (2, .int (nI i))]) hx hb dSs_read_24 hl (by decide) rfl (fun ls hl => ?_)
  refine lv_iconst (v := nI 0) hx hb dSs_read_26 (by decide) ?_
  refine lv_istore (lv' := [(6, .int (nI 0)), (4, .long ((xs 0) + ((lN i) * (sLo xs n)))), (3, .int (nI (wS xs n))), (0, .ref qf), (1, .ref qb), (2, .int (nI i))]) hx hb dSs_read_27 hl (by decide) rfl (fun ls hl => ?_)
  have lp : ∀ (k_lp : Nat) (j : Nat) (vl : Int64), (j ≤ i) → (vl = xs j + lN (i - j) * sLo xs n) → (i - j < k_lp) → ∀ (H : Heap) (locs : List Loc) (ls : Array Slot), va_P D vwCl [(qf, .inr (7, [])), (qb, .inr (0, [.ref qo, .int (nI bc)])), (qo, .inl (cB, 10242, .inl o))] H → va_D A [(qf, .inr (7, [])), (qb, .inr (0, [.ref qo, .int (nI bc)])), (qo, .inl (cB, 10242, .inl o))] → va_S A s.heap H locs → lv_has ls 7 [(0, .ref qf), (1, .ref qb), (2, .int (nI i)), (3, .int (nI (wS xs n))), (4, .long vl), (6, .int (nI j))] → W p l e ({ frames := 3, cells := 0, slots := 0, locals := 71 }) s m ([.ref qf, .ref qb, .int (nI i)].toArray) below meth c H locs (0) (0) Q (F0 m 29 ls []) := by
    intro k_lp
    induction k_lp with
    | zero => intro j vl g1 g2 hfu; exact absurd hfu (by omega)
    | succ k_lp ih_lp =>
      intro j vl g1 g2 hfu H locs ls hP hD hS hl
      refine lv_iload hx hb dSs_read_29 (lv_at hl 5 rfl) ?_
      refine lv_iload_n hx hb dSs_read_31 rfl (lv_at hl 2 rfl) ?_
      refine lv_icmp_ge (tgt := 59) hx hb dSs_read_32 (by decide) (fun c32 => ?_) (fun c32 => ?_)
      · have c32 : i ≤ j := (nI_leI (by omega) (by omega)).mp c32
        refine lv_lload hx hb dSs_read_59 (lv_at hl 4 rfl) ?_
        exact hret vl () _ _ _ _ _ _ ⟨st_e g2 (by omega), trivial⟩ (hP.sub [0, 1, 2] rfl) (hD.sub [0, 1, 2] (by decide) rfl) hS (Nat.le_of_ble_eq_true rfl) (Nat.le_of_ble_eq_true rfl) dSs_read_61
      · have c32 : ¬ i ≤ j := fun h => c32 ((nI_leI (by omega) (by omega)).mpr h)
        have hjl : j < n - 1 := by omega
        have hm := mul_lo (w := wS xs n) hjl
        refine lv_lload hx hb dSs_read_35 (lv_at hl 4 rfl) ?_
        refine lv_aload_n hx hb dSs_read_37 rfl (lv_at hl 1 rfl) ?_
        refine lv_sipush (v := nI 136) hx hb dSs_read_38 (by decide) ?_
        refine lv_iload hx hb dSs_read_41 (lv_at hl 5 rfl) ?_
        refine lv_iload_n hx hb dSs_read_43 rfl (lv_at hl 3 rfl) ?_
        refine lv_imul hx hb dSs_read_44 ?_
        refine tp_i (show ((nI j) * (nI (wS xs n))) = (nI (j * (wS xs n))) from pk_mul _ _) ?_
        refine lv_iadd hx hb dSs_read_45 ?_
        refine tp_i (show ((nI 136) + (nI (j * (wS xs n)))) = (nI (136 + (j * (wS xs n)))) from nI_add _ _) ?_
        refine lv_iload_n hx hb dSs_read_46 rfl (lv_at hl 3 rfl) ?_
        refine kc_l (wc := [(qb, .inr (0, [.ref qo, .int (nI bc)])), (qo, .inl (cB, 10242, .inl o))]) (wr := [(qf, .inr (7, []))]) hP hD hS hA [1, 2] [0] rfl rfl (by decide) (by decide) (by decide) (fun hPc hDc => va_runV (As := [.int (nI (136 + (j * (wS xs n)))), .int (nI (wS xs n))]) (rest := [.long vl]) ⟨hx, hb, hml, hown, hts⟩ (c_bitsAt l D cJ cB cI cF qb qo bc o B (136 + (j * (wS xs n))) (wS xs n) (xs (j + 1) - xs j - sLo xs n) _ (hc) (hbm) (hw1) (by omega) (k5 j hjl) (bL_small (wS_fits (by omega)))) (cwV 2 hts (wsG_k tw_499 (wsG_k tw_465 (wsG_k tw_466 (wsG_k tw_3 (wsG_c tw_467))))) rfl rfl rfl (by decide +kernel) ⟨Nat.le_of_ble_eq_true rfl, Nat.le_of_ble_eq_true rfl⟩) ⟨cf_blind, va_recv hK hPc (ci := 0) (q0 := 0) rfl rfl, cf_pre hPc hK hDc hWd⟩ rfl rfl hl.1 rfl (lv_room (Nat.le_of_ble_eq_true rfl)) dSs_read_47 ⟨Nat.le_of_ble_eq_true rfl, Nat.le_of_ble_eq_true rfl⟩) (fun r u H locs hw hP hD hS => ?_)
        obtain ⟨rfl, -⟩ := hw
        have hP : va_P D vwCl [(qf, .inr (7, [])), (qb, .inr (0, [.ref qo, .int (nI bc)])), (qo, .inl (cB, 10242, .inl o))] H := hP
        have hD : va_D A [(qf, .inr (7, [])), (qb, .inr (0, [.ref qo, .int (nI bc)])), (qo, .inl (cB, 10242, .inl o))] := hD
        refine lv_ladd hx hb dSs_read_50 ?_
        refine lv_lstore (lv' := [(4, .long (vl + (xs (j + 1) - xs j - sLo xs n))), (0, .ref qf), (1, .ref qb), (2, .int (nI i)), (3, .int (nI (wS xs n))), (6, .int (nI j))]) hx hb dSs_read_51 hl (by decide) rfl (fun ls hl => ?_)
        refine lv_iinc (v := nI (j + 1)) (lv' := [(6, .int (nI (j + 1))), (4, .long (vl + (xs (j + 1) - xs j - sLo xs n))), (0, .ref qf), (1, .ref qb), (2, .int (nI i)), (3, .int (nI (wS xs n)))]) hx hb dSs_read_53 hl (k := 5) rfl (by rw [show (Int32.ofInt 1) = nI 1 from by decide]; exact nI_add _ _) (by decide) rfl (fun ls hl => ?_)
        refine lv_goto (tgt := 29) hx hb dSs_read_56 (by decide) ?_
        exact ih_lp (j + 1) (vl + (xs (j + 1) - xs j - sLo xs n)) (by omega) (st_n g2 (by omega)) (by omega) _ _ _ (hP.sub [0, 1, 2] rfl) (hD.sub [0, 1, 2] (by decide) rfl) hS (lv_sub hl [2, 3, 4, 5, 1, 0] rfl)
  exact lp (i - 0 + 1) 0 ((xs 0) + ((lN i) * (sLo xs n))) (Nat.zero_le i) (rfl) (by omega) _ _ _ (hP.sub [0, 1, 2] rfl) (hD.sub [0, 1, 2] (by decide) rfl) hS (lv_sub hl [3, 4, 5, 2, 1, 0] rfl)

set_option maxHeartbeats 4000000 in
set_option maxRecDepth 100000 in
theorem c_ssA (l : Launch) (D : va_G) (cJ cB cI cF : ClassId) (qf : Nat) (qb : Nat) (qo : Nat) (bc : Nat) (o : Nat → Int32) (B : Nat → Bool) (xs : Nat → Int64) (n : Nat) (qq : Nat) (ht_ : Int32) (tt : Int64) (kd : Nat) (low : Int64) (high : Int64) (sz : Nat) (hc : oB o bc B) (hbm : bc ≤ 81936) (hn : n ≤ 1024) (hn0 : 0 < n) (hL : lS xs n bc B) (hk : kd < 5) : Met l ySs_askAll (Cond.code ySs_askAll cSs_askAll 10 none :: wsG) ({ frames := 3, cells := 0, slots := 0, locals := 71 }) (va_Pc [.ref qf, .ref qb, .int (nI n), .ref qq] (cfPre D (cfT cJ cB cI cF) [(qf, .inr (7, [])), (qb, .inr (0, [.ref qo, .int (nI bc)])), (qo, .inl (cB, 10242, .inl o)), (qq, .inr (4, [.int ht_, .long tt, .int (nI kd), .long low, .long high]))] sz)) (va_Qv (fun (u : Int32 × Int64) => (u.1 = ht_ + nI (nC (qF kd low high) xs n)) ∧ (u.2 = tt + nS (qF kd low high) xs n) ∧ True) (fun u t => cfPost D ((fun (u : Int32 × Int64) => [(qf, .inr (7, [])), (qb, .inr (0, [.ref qo, .int (nI bc)])), (qo, .inl (cB, 10242, .inl o)), (qq, .inr (4, [.int u.1, .long u.2, .int (nI kd), .long low, .long high]))]) u) (va_A [(qf, .inr (7, [])), (qb, .inr (0, [.ref qo, .int (nI bc)])), (qo, .inl (cB, 10242, .inl o)), (qq, .inr (4, [.int ht_, .long tt, .int (nI kd), .long low, .long high]))] sz) t) (va_A [(qf, .inr (7, [])), (qb, .inr (0, [.ref qo, .int (nI bc)])), (qo, .inl (cB, 10242, .inl o)), (qq, .inr (4, [.int ht_, .long tt, .int (nI kd), .long low, .long high]))] sz)) 0 0 (va_A [(qf, .inr (7, [])), (qb, .inr (0, [.ref qo, .int (nI bc)])), (qo, .inl (cB, 10242, .inl o)), (qq, .inr (4, [.int ht_, .long tt, .int (nI kd), .long low, .long high]))] sz) := by
  refine met_v (cc := cSs_askAll) (maxL := 10) (S := Int32 × Int64) (D := D) (wO := fun (u : Int32 × Int64) => [(qf, .inr (7, [])), (qb, .inr (0, [.ref qo, .int (nI bc)])), (qo, .inl (cB, 10242, .inl o)), (qq, .inr (4, [.int u.1, .long u.2, .int (nI kd), .long low, .long high]))]) (by decide) (Nat.le_of_ble_eq_true rfl) ?_
  intro p e s m below meth c hx hb hml hown hts hlocks hin hWd A hA hsz hP hK hD hS Q hret ls hl
  have hown : s.vm.findClass "ColumnForms$Steps" = some m.cls := hown
  have hl : lv_has ls 10 [(0, .ref qf), (1, .ref qb), (2, .int (nI n)), (3, .ref qq)] := hl
  have hP : va_P D vwCl [(qf, .inr (7, [])), (qb, .inr (0, [.ref qo, .int (nI bc)])), (qo, .inl (cB, 10242, .inl o)), (qq, .inr (4, [.int ht_, .long tt, .int (nI kd), .long low, .long high]))] s.heap := hP
  have k1 := hL.1
  have k2 := hL.2.1
  have k3 := hL.2.2.1
  have k4 := hL.2.2.2.1
  have k5 := hL.2.2.2.2
  have hw1 := wS_le xs n
  refine lv_aload_n hx hb dSs_askAll_0 rfl (lv_at hl 1 rfl) ?_
  refine kc_i (wc := [(qb, .inr (0, [.ref qo, .int (nI bc)])), (qo, .inl (cB, 10242, .inl o))]) (wr := [(qf, .inr (7, [])), (qq, .inr (4, [.int ht_, .long tt, .int (nI kd), .long low, .long high]))]) hP hD hS hA [1, 2] [0, 3] rfl rfl (by decide) (by decide) (by decide) (fun hPc hDc => va_runS (As := [.ref qb]) (rest := []) ⟨hx, hb, hml, hown, hts⟩ (c_ssI l D cJ cB cI cF qb qo bc o B (wS xs n) _ (hc) (hbm) (by omega) (k4) (hw1)) (va_cwS 1 hts (wsG_k tw_496 (wsG_k tw_497 (wsG_k tw_9 (wsG_c tw_498)))) rfl rfl rfl (by decide +kernel) ⟨Nat.le_of_ble_eq_true rfl, Nat.le_of_ble_eq_true rfl⟩) ⟨cf_blind, cf_pre hPc hK hDc hWd⟩ rfl rfl hl.1 rfl (lv_room (Nat.le_of_ble_eq_true rfl)) dSs_askAll_1 ⟨Nat.le_of_ble_eq_true rfl, Nat.le_of_ble_eq_true rfl⟩) (fun r u H locs hw hP hD hS => ?_)
  obtain ⟨rfl, -⟩ := hw
  have hP : va_P D vwCl [(qf, .inr (7, [])), (qq, .inr (4, [.int ht_, .long tt, .int (nI kd), .long low, .long high])), (qb, .inr (0, [.ref qo, .int (nI bc)])), (qo, .inl (cB, 10242, .inl o))] H := hP
  have hD : va_D A [(qf, .inr (7, [])), (qq, .inr (4, [.int ht_, .long tt, .int (nI kd), .long low, .long high])), (qb, .inr (0, [.ref qo, .int (nI bc)])), (qo, .inl (cB, 10242, .inl o))] := hD
  refine lv_istore (lv' := [(4, .int (nI (wS xs n))), (0, .ref qf), (1, .ref qb), (2, .int (nI n)), (3, .ref qq)]) hx hb dSs_askAll_4 hl (by decide) rfl (fun ls hl => ?_)
  refine lv_aload_n hx hb dSs_askAll_6 rfl (lv_at hl 2 rfl) ?_
  refine lv_bipush (v := nI 64) hx hb dSs_askAll_7 (by decide) ?_
  refine lv_bipush (v := nI 64) hx hb dSs_askAll_9 (by decide) ?_
  refine kc_l (wc := [(qb, .inr (0, [.ref qo, .int (nI bc)])), (qo, .inl (cB, 10242, .inl o))]) (wr := [(qf, .inr (7, [])), (qq, .inr (4, [.int ht_, .long tt, .int (nI kd), .long low, .long high]))]) hP hD hS hA [2, 3] [0, 1] rfl rfl (by decide) (by decide) (by decide) (fun hPc hDc => va_runV (As := [.int (nI 64), .int (nI 64)]) (rest := []) ⟨hx, hb, hml, hown, hts⟩ (c_bitsAt l D cJ cB cI cF qb qo bc o B 64 64 (sLo xs n) _ (hc) (hbm) (by omega) (by omega) (k3) (bL_64)) (cwV 2 hts (wsG_k tw_499 (wsG_k tw_465 (wsG_k tw_466 (wsG_k tw_3 (wsG_c tw_467))))) rfl rfl rfl (by decide +kernel) ⟨Nat.le_of_ble_eq_true rfl, Nat.le_of_ble_eq_true rfl⟩) ⟨cf_blind, va_recv hK hPc (ci := 0) (q0 := 0) rfl rfl, cf_pre hPc hK hDc hWd⟩ rfl rfl hl.1 rfl (lv_room (Nat.le_of_ble_eq_true rfl)) dSs_askAll_11 ⟨Nat.le_of_ble_eq_true rfl, Nat.le_of_ble_eq_true rfl⟩) (fun r u H locs hw hP hD hS => ?_)
  obtain ⟨rfl, -⟩ := hw
  have hP : va_P D vwCl [(qf, .inr (7, [])), (qq, .inr (4, [.int ht_, .long tt, .int (nI kd), .long low, .long high])), (qb, .inr (0, [.ref qo, .int (nI bc)])), (qo, .inl (cB, 10242, .inl o))] H := hP
  have hD : va_D A [(qf, .inr (7, [])), (qq, .inr (4, [.int ht_, .long tt, .int (nI kd), .long low, .long high])), (qb, .inr (0, [.ref qo, .int (nI bc)])), (qo, .inl (cB, 10242, .inl o))] := hD
  refine lv_lstore (lv' := [(5, .long (sLo xs n)), (4, .int (nI (wS xs n))), (0, .ref qf), (1, .ref qb), (2, .int (nI n)), (3, .ref qq)]) hx hb dSs_askAll_14 hl (by decide) rfl (fun ls hl => ?_)
  refine lv_aload_n hx hb dSs_askAll_16 rfl (lv_at hl 3 rfl) ?_
  refine lv_iconst (v := nI 0) hx hb dSs_askAll_17 (by decide) ?_
  refine lv_bipush (v := nI 64) hx hb dSs_askAll_18 (by decide) ?_
  refine kc_l (wc := [(qb, .inr (0, [.ref qo, .int (nI bc)])), (qo, .inl (cB, 10242, .inl o))]) (wr := [(qf, .inr (7, [])), (qq, .inr (4, [.int ht_, .long tt, .int (nI kd), .long low, .long high]))]) hP hD hS hA [2, 3] [0, 1] rfl rfl (by decide) (by decide) (by decide) (fun hPc hDc => va_runV (As := [.int (nI 0), .int (nI 64)]) (rest := []) ⟨hx, hb, hml, hown, hts⟩ (c_bitsAt l D cJ cB cI cF qb qo bc o B 0 64 (xs 0) _ (hc) (hbm) (by omega) (by omega) (k2) (bL_64)) (cwV 2 hts (wsG_k tw_499 (wsG_k tw_465 (wsG_k tw_466 (wsG_k tw_3 (wsG_c tw_467))))) rfl rfl rfl (by decide +kernel) ⟨Nat.le_of_ble_eq_true rfl, Nat.le_of_ble_eq_true rfl⟩) ⟨cf_blind, va_recv hK hPc (ci := 0) (q0 := 0) rfl rfl, cf_pre hPc hK hDc hWd⟩ rfl rfl hl.1 rfl (lv_room (Nat.le_of_ble_eq_true rfl)) dSs_askAll_20 ⟨Nat.le_of_ble_eq_true rfl, Nat.le_of_ble_eq_true rfl⟩) (fun r u H locs hw hP hD hS => ?_)
  obtain ⟨rfl, -⟩ := hw
  have hP : va_P D vwCl [(qf, .inr (7, [])), (qq, .inr (4, [.int ht_, .long tt, .int (nI kd), .long low, .long high])), (qb, .inr (0, [.ref qo, .int (nI bc)])), (qo, .inl (cB, 10242, .inl o))] H := hP
  have hD : va_D A [(qf, .inr (7, [])), (qq, .inr (4, [.int ht_, .long tt, .int (nI kd), .long low, .long high])), (qb, .inr (0, [.ref qo, .int (nI bc)])), (qo, .inl (cB, 10242, .inl o))] := hD
  refine lv_lstore (lv' := [(7, .long (xs 0)), (5, .long (sLo xs n)), (4, .int (nI (wS xs n))), (0, .ref qf), (1, .ref qb), (2, .int (nI n)), (3, .ref qq)]) hx hb dSs_askAll_23 hl (by decide) rfl (fun ls hl => ?_)
  refine lv_aload_n hx hb dSs_askAll_25 rfl (lv_at hl 6 rfl) ?_
  refine lv_lload hx hb dSs_askAll_26 (lv_at hl 0 rfl) ?_
  refine lv_iconst (v := nI 1) hx hb dSs_askAll_28 (by decide) ?_
  refine kc_v (wc := [(qq, .inr (4, [.int ht_, .long tt, .int (nI kd), .long low, .long high]))]) (wr := [(qf, .inr (7, [])), (qb, .inr (0, [.ref qo, .int (nI bc)])), (qo, .inl (cB, 10242, .inl o))]) hP hD hS hA [1] [0, 2, 3] rfl rfl (by decide) (by decide) (by decide) (fun hPc hDc => va_runV (As := [.long (xs 0), .int (nI 1)]) (rest := []) ⟨hx, hb, hml, hown, hts⟩ (c_ask l D cJ cB cI cF qq ht_ tt kd low high (xs 0) (nI 1) _ (hk)) (cwV 2 hts (wsG_k tw_575 (wsG_k tw_552 (wsG_k tw_553 (wsG_k tw_20 (wsG_c tw_554))))) rfl rfl rfl (by decide +kernel) ⟨Nat.le_of_ble_eq_true rfl, Nat.le_of_ble_eq_true rfl⟩) ⟨cf_blind, va_recv hK hPc (ci := 4) (q0 := 0) rfl rfl, cf_pre hPc hK hDc hWd⟩ rfl rfl hl.1 rfl (lv_room (Nat.le_of_ble_eq_true rfl)) dSs_askAll_29 ⟨Nat.le_of_ble_eq_true rfl, Nat.le_of_ble_eq_true rfl⟩) (fun u H locs hw hP hD hS => ?_)
  obtain ⟨h2_1, t2_2⟩ := u
  obtain ⟨b1, b2, -⟩ := hw
  have b1 : h2_1 = ht_ + (if qF kd low high (xs 0) then (nI 1) else 0) := b1
  have b2 : t2_2 = tt + (if qF kd low high (xs 0) then (xs 0) * (nI 1).toInt64 else 0) := b2
  have hP : va_P D vwCl [(qf, .inr (7, [])), (qb, .inr (0, [.ref qo, .int (nI bc)])), (qo, .inl (cB, 10242, .inl o)), (qq, .inr (4, [.int h2_1, .long t2_2, .int (nI kd), .long low, .long high]))] H := hP
  have hD : va_D A [(qf, .inr (7, [])), (qb, .inr (0, [.ref qo, .int (nI bc)])), (qo, .inl (cB, 10242, .inl o)), (qq, .inr (4, [.int h2_1, .long t2_2, .int (nI kd), .long low, .long high]))] := hD
  refine lv_iconst (v := nI 0) hx hb dSs_askAll_32 (by decide) ?_
  refine lv_istore (lv' := [(9, .int (nI 0)), (7, .long (xs 0)), (5, .long (sLo xs n)), (4, .int (nI (wS xs n))), (0, .ref qf), (1, .ref qb), (2, .int (nI n)), (3, .ref qq)]) hx hb dSs_askAll_33 hl (by decide) rfl (fun ls hl => ?_)
  have lp : ∀ (k_lp : Nat) (j : Nat) (h1 : Int32) (t1 : Int64), (j + 1 ≤ n) → (h1 = ht_ + nI (nC (qF kd low high) xs (j + 1))) → (t1 = tt + nS (qF kd low high) xs (j + 1)) → (n - j < k_lp) → ∀ (H : Heap) (locs : List Loc) (ls : Array Slot), va_P D vwCl [(qf, .inr (7, [])), (qb, .inr (0, [.ref qo, .int (nI bc)])), (qo, .inl (cB, 10242, .inl o)), (qq, .inr (4, [.int h1, .long t1, .int (nI kd), .long low, .long high]))] H → va_D A [(qf, .inr (7, [])), (qb, .inr (0, [.ref qo, .int (nI bc)])), (qo, .inl (cB, 10242, .inl o)), (qq, .inr (4, [.int h1, .long t1, .int (nI kd), .long low, .long high]))] → va_S A s.heap H locs → lv_has ls 10 [(0, .ref qf), (1, .ref qb), (2, .int (nI n)), (3, .ref qq), (4, .int (nI (wS xs n))), (5, .long (sLo xs n)), (7, .long (xs j)), (9, .int (nI j))] → W p l e ({ frames := 3, cells := 0, slots := 0, locals := 71 }) s m ([.ref qf, .ref qb, .int (nI n), .ref qq].toArray) below meth c H locs (0) (0) Q (F0 m 35 ls []) := by
    intro k_lp
    induction k_lp with
    | zero => intro j h1 t1 g1 g2 g3 hfu; exact absurd hfu (by omega)
    | succ k_lp ih_lp =>
      intro j h1 t1 g1 g2 g3 hfu H locs ls hP hD hS hl
      refine lv_iload hx hb dSs_askAll_35 (lv_at hl 7 rfl) ?_
      refine lv_iload_n hx hb dSs_askAll_37 rfl (lv_at hl 2 rfl) ?_
      refine lv_iconst (v := nI 1) hx hb dSs_askAll_38 (by decide) ?_
      refine lv_isub hx hb dSs_askAll_39 ?_
      refine tp_i (show ((nI n) - (nI 1)) = (nI (n - 1)) from pk_sub (by omega)) ?_
      refine lv_icmp_ge (tgt := 79) hx hb dSs_askAll_40 (by decide) (fun c40 => ?_) (fun c40 => ?_)
      · have c40 : (n - 1) ≤ j := (nI_leI (by omega) (by omega)).mp c40
        exact hret (h1, t1) _ _ _ _ _ _ ⟨by show h1 = _; rw [g2, show j + 1 = n by omega], by show t1 = _; rw [g3, show j + 1 = n by omega], trivial⟩ (hP.sub [0, 1, 2, 3] rfl) (hD.sub [0, 1, 2, 3] (by decide) rfl) hS (Nat.le_of_ble_eq_true rfl) (Nat.le_of_ble_eq_true rfl) dSs_askAll_79
      · have c40 : ¬ (n - 1) ≤ j := fun h => c40 ((nI_leI (by omega) (by omega)).mpr h)
        have hjl : j < n - 1 := by omega
        have hm := mul_lo (w := wS xs n) hjl
        refine lv_lload hx hb dSs_askAll_43 (lv_at hl 6 rfl) ?_
        refine lv_lload hx hb dSs_askAll_45 (lv_at hl 5 rfl) ?_
        refine lv_aload_n hx hb dSs_askAll_47 rfl (lv_at hl 1 rfl) ?_
        refine lv_sipush (v := nI 136) hx hb dSs_askAll_48 (by decide) ?_
        refine lv_iload hx hb dSs_askAll_51 (lv_at hl 7 rfl) ?_
        refine lv_iload hx hb dSs_askAll_53 (lv_at hl 4 rfl) ?_
        refine lv_imul hx hb dSs_askAll_55 ?_
        refine tp_i (show ((nI j) * (nI (wS xs n))) = (nI (j * (wS xs n))) from pk_mul _ _) ?_
        refine lv_iadd hx hb dSs_askAll_56 ?_
        refine tp_i (show ((nI 136) + (nI (j * (wS xs n)))) = (nI (136 + (j * (wS xs n)))) from nI_add _ _) ?_
        refine lv_iload hx hb dSs_askAll_57 (lv_at hl 4 rfl) ?_
        refine kc_l (wc := [(qb, .inr (0, [.ref qo, .int (nI bc)])), (qo, .inl (cB, 10242, .inl o))]) (wr := [(qf, .inr (7, [])), (qq, .inr (4, [.int h1, .long t1, .int (nI kd), .long low, .long high]))]) hP hD hS hA [1, 2] [0, 3] rfl rfl (by decide) (by decide) (by decide) (fun hPc hDc => va_runV (As := [.int (nI (136 + (j * (wS xs n)))), .int (nI (wS xs n))]) (rest := [.long (sLo xs n), .long (xs j)]) ⟨hx, hb, hml, hown, hts⟩ (c_bitsAt l D cJ cB cI cF qb qo bc o B (136 + (j * (wS xs n))) (wS xs n) (xs (j + 1) - xs j - sLo xs n) _ (hc) (hbm) (hw1) (by omega) (k5 j hjl) (bL_small (wS_fits (by omega)))) (cwV 2 hts (wsG_k tw_499 (wsG_k tw_465 (wsG_k tw_466 (wsG_k tw_3 (wsG_c tw_467))))) rfl rfl rfl (by decide +kernel) ⟨Nat.le_of_ble_eq_true rfl, Nat.le_of_ble_eq_true rfl⟩) ⟨cf_blind, va_recv hK hPc (ci := 0) (q0 := 0) rfl rfl, cf_pre hPc hK hDc hWd⟩ rfl rfl hl.1 rfl (lv_room (Nat.le_of_ble_eq_true rfl)) dSs_askAll_59 ⟨Nat.le_of_ble_eq_true rfl, Nat.le_of_ble_eq_true rfl⟩) (fun r u H locs hw hP hD hS => ?_)
        obtain ⟨rfl, -⟩ := hw
        have hP : va_P D vwCl [(qf, .inr (7, [])), (qq, .inr (4, [.int h1, .long t1, .int (nI kd), .long low, .long high])), (qb, .inr (0, [.ref qo, .int (nI bc)])), (qo, .inl (cB, 10242, .inl o))] H := hP
        have hD : va_D A [(qf, .inr (7, [])), (qq, .inr (4, [.int h1, .long t1, .int (nI kd), .long low, .long high])), (qb, .inr (0, [.ref qo, .int (nI bc)])), (qo, .inl (cB, 10242, .inl o))] := hD
        refine lv_ladd hx hb dSs_askAll_62 ?_
        refine lv_ladd hx hb dSs_askAll_63 ?_
        refine tp_l (show ((xs j) + ((sLo xs n) + (xs (j + 1) - xs j - sLo xs n))) = (xs (j + 1)) from l_st1 _ _ _) ?_
        refine lv_lstore (lv' := [(7, .long (xs (j + 1))), (0, .ref qf), (1, .ref qb), (2, .int (nI n)), (3, .ref qq), (4, .int (nI (wS xs n))), (5, .long (sLo xs n)), (9, .int (nI j))]) hx hb dSs_askAll_64 hl (by decide) rfl (fun ls hl => ?_)
        refine lv_aload_n hx hb dSs_askAll_66 rfl (lv_at hl 4 rfl) ?_
        refine lv_lload hx hb dSs_askAll_67 (lv_at hl 0 rfl) ?_
        refine lv_iconst (v := nI 1) hx hb dSs_askAll_69 (by decide) ?_
        refine kc_v (wc := [(qq, .inr (4, [.int h1, .long t1, .int (nI kd), .long low, .long high]))]) (wr := [(qf, .inr (7, [])), (qb, .inr (0, [.ref qo, .int (nI bc)])), (qo, .inl (cB, 10242, .inl o))]) hP hD hS hA [1] [0, 2, 3] rfl rfl (by decide) (by decide) (by decide) (fun hPc hDc => va_runV (As := [.long (xs (j + 1)), .int (nI 1)]) (rest := []) ⟨hx, hb, hml, hown, hts⟩ (c_ask l D cJ cB cI cF qq h1 t1 kd low high (xs (j + 1)) (nI 1) _ (hk)) (cwV 2 hts (wsG_k tw_575 (wsG_k tw_552 (wsG_k tw_553 (wsG_k tw_20 (wsG_c tw_554))))) rfl rfl rfl (by decide +kernel) ⟨Nat.le_of_ble_eq_true rfl, Nat.le_of_ble_eq_true rfl⟩) ⟨cf_blind, va_recv hK hPc (ci := 4) (q0 := 0) rfl rfl, cf_pre hPc hK hDc hWd⟩ rfl rfl hl.1 rfl (lv_room (Nat.le_of_ble_eq_true rfl)) dSs_askAll_70 ⟨Nat.le_of_ble_eq_true rfl, Nat.le_of_ble_eq_true rfl⟩) (fun u H locs hw hP hD hS => ?_)
        obtain ⟨h2_3, t2_4⟩ := u
        obtain ⟨a1, a2, -⟩ := hw
        have a1 : h2_3 = h1 + (if qF kd low high (xs (j + 1)) then (nI 1) else 0) := a1
        have a2 : t2_4 = t1 + (if qF kd low high (xs (j + 1)) then (xs (j + 1)) * (nI 1).toInt64 else 0) := a2
        have hP : va_P D vwCl [(qf, .inr (7, [])), (qb, .inr (0, [.ref qo, .int (nI bc)])), (qo, .inl (cB, 10242, .inl o)), (qq, .inr (4, [.int h2_3, .long t2_4, .int (nI kd), .long low, .long high]))] H := hP
        have hD : va_D A [(qf, .inr (7, [])), (qb, .inr (0, [.ref qo, .int (nI bc)])), (qo, .inl (cB, 10242, .inl o)), (qq, .inr (4, [.int h2_3, .long t2_4, .int (nI kd), .long low, .long high]))] := hD
        refine lv_iinc (v := nI (j + 1)) (lv' := [(9, .int (nI (j + 1))), (7, .long (xs (j + 1))), (0, .ref qf), (1, .ref qb), (2, .int (nI n)), (3, .ref qq), (4, .int (nI (wS xs n))), (5, .long (sLo xs n))]) hx hb dSs_askAll_73 hl (k := 7) rfl (by rw [show (Int32.ofInt 1) = nI 1 from by decide]; exact nI_add _ _) (by decide) rfl (fun ls hl => ?_)
        refine lv_goto (tgt := 35) hx hb dSs_askAll_76 (by decide) ?_
        exact ih_lp (j + 1) h2_3 t2_4 (by omega) (ask_c g2 a1) (ask_s g3 a2) (by omega) _ _ _ (hP.sub [0, 1, 2, 3] rfl) (hD.sub [0, 1, 2, 3] (by decide) rfl) hS (lv_sub hl [2, 3, 4, 5, 6, 7, 1, 0] rfl)
  exact lp (n - 0 + 1) 0 h2_1 t2_2 (by omega) (ask_c (Int32.add_zero _).symm b1) (ask_s (Int64.add_zero _).symm b2) (by omega) _ _ _ (hP.sub [0, 1, 2, 3] rfl) (hD.sub [0, 1, 2, 3] (by decide) rfl) hS (lv_sub hl [4, 5, 6, 7, 3, 2, 1, 0] rfl)

set_option maxHeartbeats 4000000 in
set_option maxRecDepth 100000 in
theorem c_liF (l : Launch) (D : va_G) (cJ cB cI cF : ClassId) (k : Nat) (sz : Nat) : Met l yLi_placesFrom (Cond.code yLi_placesFrom cLi_placesFrom 1 (some .int) :: wsG) ({ frames := 0, cells := 0, slots := 0, locals := 0 }) (va_Pc [.int (nI k)] (cfPre D (cfT cJ cB cI cF) [] sz)) (va_Qi (fun (r : Int32) (u : Unit) => r = nI (16 + 64 * k) ∧ True) (fun u t => cfPost D ((fun (u : Unit) => []) u) (va_A [] sz) t) (va_A [] sz)) 0 0 (va_A [] sz) := by
  refine met_i (cc := cLi_placesFrom) (maxL := 1) (S := Unit) (D := D) (wO := fun (u : Unit) => []) (by decide) (Nat.le_of_ble_eq_true rfl) ?_
  intro p e s m below meth c hx hb hml hown hts hlocks hin hWd A hA hsz hP hK hD hS Q hret ls hl
  have hown : s.vm.findClass "ColumnForms$Listed" = some m.cls := hown
  have hl : lv_has ls 1 [(0, .int (nI k))] := hl
  have hP : va_P D vwCl [] s.heap := hP
  refine lv_bipush (v := nI 16) hx hb dLi_placesFrom_0 (by decide) ?_
  refine lv_bipush (v := nI 64) hx hb dLi_placesFrom_2 (by decide) ?_
  refine lv_iload_n hx hb dLi_placesFrom_4 rfl (lv_at hl 0 rfl) ?_
  refine lv_imul hx hb dLi_placesFrom_5 ?_
  refine tp_i (show ((nI 64) * (nI k)) = (nI (64 * k)) from pk_mul _ _) ?_
  refine lv_iadd hx hb dLi_placesFrom_6 ?_
  refine tp_i (show ((nI 16) + (nI (64 * k))) = (nI (16 + (64 * k))) from nI_add _ _) ?_
  exact hret (nI (16 + (64 * k))) () _ _ _ _ _ _ ⟨rfl, trivial⟩ (hP.sub [] rfl) (hD.sub [] (by decide) rfl) hS (Nat.le_of_ble_eq_true rfl) (Nat.le_of_ble_eq_true rfl) dLi_placesFrom_7

set_option maxHeartbeats 4000000 in
set_option maxRecDepth 100000 in
theorem c_liW (l : Launch) (D : va_G) (cJ cB cI cF : ClassId) (qf : Nat) (qt : Nat) (qr : Nat) (n : Nat) (d : Nat) (rn : Nat) (lo : Int64) (hi : Int64) (sl : Int64) (sh : Int64) (qc : Nat) (qs : Nat) (sz : Nat) (hn : n ≤ 1024) (hd : d ≤ 1024) (hd0 : 0 < d) : Met l yLi_weigh (Cond.code yLi_weigh cLi_weigh 2 (some .int) :: wsG) ({ frames := 3, cells := 0, slots := 0, locals := 64 }) (va_Pc [.ref qf, .ref qr] (cfPre D (cfT cJ cB cI cF) [(qf, .inr (1, [.ref qt])), (qr, .inr (5, [.int (nI n), .int (nI d), .int (nI rn), .long lo, .long hi, .long sl, .long sh, .ref qc, .ref qs]))] sz)) (va_Qi (fun (r : Int32) (u : Unit) => r = nI ((16 + 64 * d + n * bln (d - 1) + 7) / 8) ∧ True) (fun u t => cfPost D ((fun (u : Unit) => [(qf, .inr (1, [.ref qt])), (qr, .inr (5, [.int (nI n), .int (nI d), .int (nI rn), .long lo, .long hi, .long sl, .long sh, .ref qc, .ref qs]))]) u) (va_A [(qf, .inr (1, [.ref qt])), (qr, .inr (5, [.int (nI n), .int (nI d), .int (nI rn), .long lo, .long hi, .long sl, .long sh, .ref qc, .ref qs]))] sz) t) (va_A [(qf, .inr (1, [.ref qt])), (qr, .inr (5, [.int (nI n), .int (nI d), .int (nI rn), .long lo, .long hi, .long sl, .long sh, .ref qc, .ref qs]))] sz)) 0 0 (va_A [(qf, .inr (1, [.ref qt])), (qr, .inr (5, [.int (nI n), .int (nI d), .int (nI rn), .long lo, .long hi, .long sl, .long sh, .ref qc, .ref qs]))] sz) := by
  refine met_i (cc := cLi_weigh) (maxL := 2) (S := Unit) (D := D) (wO := fun (u : Unit) => [(qf, .inr (1, [.ref qt])), (qr, .inr (5, [.int (nI n), .int (nI d), .int (nI rn), .long lo, .long hi, .long sl, .long sh, .ref qc, .ref qs]))]) (by decide) (Nat.le_of_ble_eq_true rfl) ?_
  intro p e s m below meth c hx hb hml hown hts hlocks hin hWd A hA hsz hP hK hD hS Q hret ls hl
  have hown : s.vm.findClass "ColumnForms$Listed" = some m.cls := hown
  have hl : lv_has ls 2 [(0, .ref qf), (1, .ref qr)] := hl
  have hP : va_P D vwCl [(qf, .inr (1, [.ref qt])), (qr, .inr (5, [.int (nI n), .int (nI d), .int (nI rn), .long lo, .long hi, .long sl, .long sh, .ref qc, .ref qs]))] s.heap := hP
  have hw2 : n * bln (d - 1) ≤ 1024 * 10 := Nat.mul_le_mul hn (bln_d hd)
  refine lv_aload_n hx hb dLi_weigh_0 rfl (lv_at hl 1 rfl) ?_
  refine va_get (D := D) (ci := 5) (v := .int (nI d)) (C := "ColumnForms$Row") (T := TRo) (N := 9) hx hb hts inRo hown hK hP 1 rfl rfl 1 (by decide) (hts _ tw_43) (fun _ h9 => h9) rfl dLi_weigh_1 ?_
  refine kc_i (wc := []) (wr := [(qf, .inr (1, [.ref qt])), (qr, .inr (5, [.int (nI n), .int (nI d), .int (nI rn), .long lo, .long hi, .long sl, .long sh, .ref qc, .ref qs]))]) hP hD hS hA [] [0, 1] rfl rfl (by decide) (by decide) (by decide) (fun hPc hDc => va_runS (As := [.int (nI d)]) (rest := []) ⟨hx, hb, hml, hown, hts⟩ (c_liF l D cJ cB cI cF d _) (va_cwS 1 hts (wsG_k tw_332 (wsG_k tw_333 (wsG_k tw_7 (wsG_c tw_334)))) rfl rfl rfl (by decide +kernel) ⟨Nat.le_of_ble_eq_true rfl, Nat.le_of_ble_eq_true rfl⟩) ⟨cf_blind, cf_pre hPc hK hDc hWd⟩ rfl rfl hl.1 rfl (lv_room (Nat.le_of_ble_eq_true rfl)) dLi_weigh_4 ⟨Nat.le_of_ble_eq_true rfl, Nat.le_of_ble_eq_true rfl⟩) (fun r u H locs hw hP hD hS => ?_)
  obtain ⟨rfl, -⟩ := hw
  have hP : va_P D vwCl [(qf, .inr (1, [.ref qt])), (qr, .inr (5, [.int (nI n), .int (nI d), .int (nI rn), .long lo, .long hi, .long sl, .long sh, .ref qc, .ref qs]))] H := hP
  have hD : va_D A [(qf, .inr (1, [.ref qt])), (qr, .inr (5, [.int (nI n), .int (nI d), .int (nI rn), .long lo, .long hi, .long sl, .long sh, .ref qc, .ref qs]))] := hD
  refine lv_aload_n hx hb dLi_weigh_7 rfl (lv_at hl 1 rfl) ?_
  refine va_get (D := D) (ci := 5) (v := .int (nI n)) (C := "ColumnForms$Row") (T := TRo) (N := 9) hx hb hts inRo hown hK hP 1 rfl rfl 0 (by decide) (hts _ tw_41) (fun _ h9 => h9) rfl dLi_weigh_8 ?_
  refine lv_aload_n hx hb dLi_weigh_11 rfl (lv_at hl 1 rfl) ?_
  refine va_get (D := D) (ci := 5) (v := .int (nI d)) (C := "ColumnForms$Row") (T := TRo) (N := 9) hx hb hts inRo hown hK hP 1 rfl rfl 1 (by decide) (hts _ tw_43) (fun _ h9 => h9) rfl dLi_weigh_12 ?_
  refine lv_iconst (v := nI 1) hx hb dLi_weigh_15 (by decide) ?_
  refine lv_isub hx hb dLi_weigh_16 ?_
  refine tp_i (show ((nI d) - (nI 1)) = (nI (d - 1)) from pk_sub (by omega)) ?_
  refine lv_i2l hx hb dLi_weigh_17 rfl ?_
  refine tp_l (show ((nI (d - 1)).toInt64) = (lN (d - 1)) from nI_l (by omega)) ?_
  refine kc_i (wc := []) (wr := [(qf, .inr (1, [.ref qt])), (qr, .inr (5, [.int (nI n), .int (nI d), .int (nI rn), .long lo, .long hi, .long sl, .long sh, .ref qc, .ref qs]))]) hP hD hS hA [] [0, 1] rfl rfl (by decide) (by decide) (by decide) (fun hPc hDc => va_runSN (As := [.long (lN (d - 1))]) (rest := [.int (nI n), .int (nI (16 + 64 * d))]) ⟨hx, hb, hml, hown, hts⟩ (c_bits l D cJ cB cI cF (lN (d - 1)) _) (⟨va_cnB 1 hts (wsG_c tw_337) rfl rfl rfl (hWd.nest 13 rfl) (hts _ tw_1) (by decide +kernel) ⟨Nat.le_of_ble_eq_true rfl, Nat.le_of_ble_eq_true rfl⟩, hts _ tw_336, trivial⟩) ⟨cf_blind, cf_pre hPc hK hDc hWd⟩ rfl rfl hl.1 rfl (lv_room (Nat.le_of_ble_eq_true rfl)) dLi_weigh_18 ⟨Nat.le_of_ble_eq_true rfl, Nat.le_of_ble_eq_true rfl⟩) (fun r u H locs hw hP hD hS => ?_)
  obtain ⟨rfl, -⟩ := hw
  have hP : va_P D vwCl [(qf, .inr (1, [.ref qt])), (qr, .inr (5, [.int (nI n), .int (nI d), .int (nI rn), .long lo, .long hi, .long sl, .long sh, .ref qc, .ref qs]))] H := hP
  have hD : va_D A [(qf, .inr (1, [.ref qt])), (qr, .inr (5, [.int (nI n), .int (nI d), .int (nI rn), .long lo, .long hi, .long sl, .long sh, .ref qc, .ref qs]))] := hD
  refine tp_i (show (nI (bln (uN (lN (d - 1))))) = (nI (bln (d - 1))) from congrArg (fun z => nI (bln z)) (uN_lN (by omega))) ?_
  refine lv_imul hx hb dLi_weigh_21 ?_
  refine tp_i (show ((nI n) * (nI (bln (d - 1)))) = (nI (n * (bln (d - 1)))) from pk_mul _ _) ?_
  refine lv_iadd hx hb dLi_weigh_22 ?_
  refine tp_i (show ((nI (16 + 64 * d)) + (nI (n * (bln (d - 1))))) = (nI ((16 + 64 * d) + (n * (bln (d - 1))))) from nI_add _ _) ?_
  refine kc_i (wc := []) (wr := [(qf, .inr (1, [.ref qt])), (qr, .inr (5, [.int (nI n), .int (nI d), .int (nI rn), .long lo, .long hi, .long sl, .long sh, .ref qc, .ref qs]))]) hP hD hS hA [] [0, 1] rfl rfl (by decide) (by decide) (by decide) (fun hPc hDc => va_runSN (As := [.int (nI ((16 + 64 * d) + (n * (bln (d - 1)))))]) (rest := []) ⟨hx, hb, hml, hown, hts⟩ (c_whole l D cJ cB cI cF ((16 + 64 * d) + (n * (bln (d - 1)))) _ (by omega)) (⟨va_cnB 1 hts (wsG_c tw_173) rfl rfl rfl (hWd.nest 14 rfl) (hts _ tw_1) (by decide +kernel) ⟨Nat.le_of_ble_eq_true rfl, Nat.le_of_ble_eq_true rfl⟩, hts _ tw_172, trivial⟩) ⟨cf_blind, cf_pre hPc hK hDc hWd⟩ rfl rfl hl.1 rfl (lv_room (Nat.le_of_ble_eq_true rfl)) dLi_weigh_23 ⟨Nat.le_of_ble_eq_true rfl, Nat.le_of_ble_eq_true rfl⟩) (fun r u H locs hw hP hD hS => ?_)
  obtain ⟨rfl, -⟩ := hw
  have hP : va_P D vwCl [(qf, .inr (1, [.ref qt])), (qr, .inr (5, [.int (nI n), .int (nI d), .int (nI rn), .long lo, .long hi, .long sl, .long sh, .ref qc, .ref qs]))] H := hP
  have hD : va_D A [(qf, .inr (1, [.ref qt])), (qr, .inr (5, [.int (nI n), .int (nI d), .int (nI rn), .long lo, .long hi, .long sl, .long sh, .ref qc, .ref qs]))] := hD
  exact hret (nI ((((16 + 64 * d) + (n * (bln (d - 1)))) + 7) / 8)) () _ _ _ _ _ _ ⟨rfl, trivial⟩ (hP.sub [0, 1] rfl) (hD.sub [0, 1] (by decide) rfl) hS (Nat.le_of_ble_eq_true rfl) (Nat.le_of_ble_eq_true rfl) dLi_weigh_26

set_option maxHeartbeats 4000000 in
set_option maxRecDepth 100000 in
theorem c_liD (l : Launch) (D : va_G) (cJ cB cI cF : ClassId) (qb : Nat) (qo : Nat) (bc : Nat) (o : Nat → Int32) (B : Nat → Bool) (d : Nat) (sz : Nat) (hc : oB o bc B) (hbm : bc ≤ 81936) (hb0 : 16 ≤ bc) (hf : fld B 0 16 (lN d)) (hd : d ≤ 1024) : Met l yLi_differentIn (Cond.code yLi_differentIn cLi_differentIn 1 (some .int) :: wsG) ({ frames := 2, cells := 0, slots := 0, locals := 51 }) (va_Pc [.ref qb] (cfPre D (cfT cJ cB cI cF) [(qb, .inr (0, [.ref qo, .int (nI bc)])), (qo, .inl (cB, 10242, .inl o))] sz)) (va_Qi (fun (r : Int32) (u : Unit) => r = nI d ∧ True) (fun u t => cfPost D ((fun (u : Unit) => [(qb, .inr (0, [.ref qo, .int (nI bc)])), (qo, .inl (cB, 10242, .inl o))]) u) (va_A [(qb, .inr (0, [.ref qo, .int (nI bc)])), (qo, .inl (cB, 10242, .inl o))] sz) t) (va_A [(qb, .inr (0, [.ref qo, .int (nI bc)])), (qo, .inl (cB, 10242, .inl o))] sz)) 0 0 (va_A [(qb, .inr (0, [.ref qo, .int (nI bc)])), (qo, .inl (cB, 10242, .inl o))] sz) := by
  refine met_i (cc := cLi_differentIn) (maxL := 1) (S := Unit) (D := D) (wO := fun (u : Unit) => [(qb, .inr (0, [.ref qo, .int (nI bc)])), (qo, .inl (cB, 10242, .inl o))]) (by decide) (Nat.le_of_ble_eq_true rfl) ?_
  intro p e s m below meth c hx hb hml hown hts hlocks hin hWd A hA hsz hP hK hD hS Q hret ls hl
  have hown : s.vm.findClass "ColumnForms$Listed" = some m.cls := hown
  have hl : lv_has ls 1 [(0, .ref qb)] := hl
  have hP : va_P D vwCl [(qb, .inr (0, [.ref qo, .int (nI bc)])), (qo, .inl (cB, 10242, .inl o))] s.heap := hP
  refine lv_aload_n hx hb dLi_differentIn_0 rfl (lv_at hl 0 rfl) ?_
  refine lv_iconst (v := nI 0) hx hb dLi_differentIn_1 (by decide) ?_
  refine lv_bipush (v := nI 16) hx hb dLi_differentIn_2 (by decide) ?_
  refine kc_l (wc := [(qb, .inr (0, [.ref qo, .int (nI bc)])), (qo, .inl (cB, 10242, .inl o))]) (wr := []) hP hD hS hA [0, 1] [] rfl rfl (by decide) (by decide) (by decide) (fun hPc hDc => va_runV (As := [.int (nI 0), .int (nI 16)]) (rest := []) ⟨hx, hb, hml, hown, hts⟩ (c_bitsAt l D cJ cB cI cF qb qo bc o B 0 16 (lN d) _ (hc) (hbm) (by omega) (by omega) (hf) (lN_small (Nat.lt_of_le_of_lt hd (by decide)) (by omega))) (cwV 2 hts (wsG_k tw_464 (wsG_k tw_465 (wsG_k tw_466 (wsG_k tw_3 (wsG_c tw_467))))) rfl rfl rfl (by decide +kernel) ⟨Nat.le_of_ble_eq_true rfl, Nat.le_of_ble_eq_true rfl⟩) ⟨cf_blind, va_recv hK hPc (ci := 0) (q0 := 0) rfl rfl, cf_pre hPc hK hDc hWd⟩ rfl rfl hl.1 rfl (lv_room (Nat.le_of_ble_eq_true rfl)) dLi_differentIn_4 ⟨Nat.le_of_ble_eq_true rfl, Nat.le_of_ble_eq_true rfl⟩) (fun r u H locs hw hP hD hS => ?_)
  obtain ⟨rfl, -⟩ := hw
  have hP : va_P D vwCl [(qb, .inr (0, [.ref qo, .int (nI bc)])), (qo, .inl (cB, 10242, .inl o))] H := hP
  have hD : va_D A [(qb, .inr (0, [.ref qo, .int (nI bc)])), (qo, .inl (cB, 10242, .inl o))] := hD
  refine lv_l2i hx hb dLi_differentIn_7 rfl ?_
  refine tp_i (show ((lN d).toInt32) = (nI d) from lN_i _) ?_
  exact hret (nI d) () _ _ _ _ _ _ ⟨rfl, trivial⟩ (hP.sub [0, 1] rfl) (hD.sub [0, 1] (by decide) rfl) hS (Nat.le_of_ble_eq_true rfl) (Nat.le_of_ble_eq_true rfl) dLi_differentIn_8

set_option maxHeartbeats 4000000 in
set_option maxRecDepth 100000 in
theorem c_liT (l : Launch) (D : va_G) (cJ cB cI cF : ClassId) (qb : Nat) (qo : Nat) (bc : Nat) (o : Nat → Int32) (B : Nat → Bool) (k : Nat) (vv : Int64) (sz : Nat) (hc : oB o bc B) (hbm : bc ≤ 81936) (hb0 : 16 + 64 * k + 64 ≤ bc) (hf : fld B (16 + 64 * k) 64 vv) : Met l yLi_listedAt (Cond.code yLi_listedAt cLi_listedAt 2 (some .long) :: wsG) ({ frames := 2, cells := 0, slots := 0, locals := 51 }) (va_Pc [.ref qb, .int (nI k)] (cfPre D (cfT cJ cB cI cF) [(qb, .inr (0, [.ref qo, .int (nI bc)])), (qo, .inl (cB, 10242, .inl o))] sz)) (va_Ql (fun (r : Int64) (u : Unit) => r = vv ∧ True) (fun u t => cfPost D ((fun (u : Unit) => [(qb, .inr (0, [.ref qo, .int (nI bc)])), (qo, .inl (cB, 10242, .inl o))]) u) (va_A [(qb, .inr (0, [.ref qo, .int (nI bc)])), (qo, .inl (cB, 10242, .inl o))] sz) t) (va_A [(qb, .inr (0, [.ref qo, .int (nI bc)])), (qo, .inl (cB, 10242, .inl o))] sz)) 0 0 (va_A [(qb, .inr (0, [.ref qo, .int (nI bc)])), (qo, .inl (cB, 10242, .inl o))] sz) := by
  refine met_l (cc := cLi_listedAt) (maxL := 2) (S := Unit) (D := D) (wO := fun (u : Unit) => [(qb, .inr (0, [.ref qo, .int (nI bc)])), (qo, .inl (cB, 10242, .inl o))]) (by decide) (Nat.le_of_ble_eq_true rfl) ?_
  intro p e s m below meth c hx hb hml hown hts hlocks hin hWd A hA hsz hP hK hD hS Q hret ls hl
  have hown : s.vm.findClass "ColumnForms$Listed" = some m.cls := hown
  have hl : lv_has ls 2 [(0, .ref qb), (1, .int (nI k))] := hl
  have hP : va_P D vwCl [(qb, .inr (0, [.ref qo, .int (nI bc)])), (qo, .inl (cB, 10242, .inl o))] s.heap := hP
  refine lv_aload_n hx hb dLi_listedAt_0 rfl (lv_at hl 0 rfl) ?_
  refine lv_bipush (v := nI 16) hx hb dLi_listedAt_1 (by decide) ?_
  refine lv_bipush (v := nI 64) hx hb dLi_listedAt_3 (by decide) ?_
  refine lv_iload_n hx hb dLi_listedAt_5 rfl (lv_at hl 1 rfl) ?_
  refine lv_imul hx hb dLi_listedAt_6 ?_
  refine tp_i (show ((nI 64) * (nI k)) = (nI (64 * k)) from pk_mul _ _) ?_
  refine lv_iadd hx hb dLi_listedAt_7 ?_
  refine tp_i (show ((nI 16) + (nI (64 * k))) = (nI (16 + (64 * k))) from nI_add _ _) ?_
  refine lv_bipush (v := nI 64) hx hb dLi_listedAt_8 (by decide) ?_
  refine kc_l (wc := [(qb, .inr (0, [.ref qo, .int (nI bc)])), (qo, .inl (cB, 10242, .inl o))]) (wr := []) hP hD hS hA [0, 1] [] rfl rfl (by decide) (by decide) (by decide) (fun hPc hDc => va_runV (As := [.int (nI (16 + (64 * k))), .int (nI 64)]) (rest := []) ⟨hx, hb, hml, hown, hts⟩ (c_bitsAt l D cJ cB cI cF qb qo bc o B (16 + (64 * k)) 64 vv _ (hc) (hbm) (by omega) (by omega) (hf) (bL_64)) (cwV 2 hts (wsG_k tw_464 (wsG_k tw_465 (wsG_k tw_466 (wsG_k tw_3 (wsG_c tw_467))))) rfl rfl rfl (by decide +kernel) ⟨Nat.le_of_ble_eq_true rfl, Nat.le_of_ble_eq_true rfl⟩) ⟨cf_blind, va_recv hK hPc (ci := 0) (q0 := 0) rfl rfl, cf_pre hPc hK hDc hWd⟩ rfl rfl hl.1 rfl (lv_room (Nat.le_of_ble_eq_true rfl)) dLi_listedAt_10 ⟨Nat.le_of_ble_eq_true rfl, Nat.le_of_ble_eq_true rfl⟩) (fun r u H locs hw hP hD hS => ?_)
  obtain ⟨hrv, -⟩ := hw
  rw [hrv]
  have hP : va_P D vwCl [(qb, .inr (0, [.ref qo, .int (nI bc)])), (qo, .inl (cB, 10242, .inl o))] H := hP
  have hD : va_D A [(qb, .inr (0, [.ref qo, .int (nI bc)])), (qo, .inl (cB, 10242, .inl o))] := hD
  exact hret vv () _ _ _ _ _ _ ⟨rfl, trivial⟩ (hP.sub [0, 1] rfl) (hD.sub [0, 1] (by decide) rfl) hS (Nat.le_of_ble_eq_true rfl) (Nat.le_of_ble_eq_true rfl) dLi_listedAt_13

set_option maxHeartbeats 4000000 in
set_option maxRecDepth 100000 in
theorem c_liL (l : Launch) (D : va_G) (cJ cB cI cF : ClassId) (qf : Nat) (qt : Nat) (qr : Nat) (n : Nat) (d : Nat) (rn : Nat) (lo : Int64) (hi : Int64) (sl : Int64) (sh : Int64) (qc : Nat) (qs : Nat) (xs : Nat → Int64) (rs : Nat → Int64) (qb : Nat) (qo : Nat) (o : Nat → Int32) (sz : Nat) (hR : rAll xs n d rn lo hi sl sh rs) (hn0 : 0 < n) : Met l yLi_lay (Cond.code yLi_lay cLi_lay 5 none :: wsG) ({ frames := 3, cells := 0, slots := 0, locals := 64 }) (va_Pc [.ref qf, .ref qr, .ref qb] (cfPre D (cfT cJ cB cI cF) [(qf, .inr (1, [.ref qt])), (qr, .inr (5, [.int (nI n), .int (nI d), .int (nI rn), .long lo, .long hi, .long sl, .long sh, .ref qc, .ref qs])), (qc, .inl (cJ, 1024, .inr (.inl xs))), (qs, .inl (cJ, 1024, .inr (.inl rs))), (qb, .inr (0, [.ref qo, .int (nI 0)])), (qo, .inl (cB, 10242, .inl o))] sz)) (va_Qv (fun (u : Nat × (Nat → Int32) × (Nat → Bool)) => (oB u.2.1 u.1 u.2.2) ∧ (lL xs n u.1 u.2.2) ∧ (u.1 ≤ 81936) ∧ True) (fun u t => cfPost D ((fun (u : Nat × (Nat → Int32) × (Nat → Bool)) => [(qf, .inr (1, [.ref qt])), (qr, .inr (5, [.int (nI n), .int (nI d), .int (nI rn), .long lo, .long hi, .long sl, .long sh, .ref qc, .ref qs])), (qc, .inl (cJ, 1024, .inr (.inl xs))), (qs, .inl (cJ, 1024, .inr (.inl rs))), (qb, .inr (0, [.ref qo, .int (nI u.1)])), (qo, .inl (cB, 10242, .inl u.2.1))]) u) (va_A [(qf, .inr (1, [.ref qt])), (qr, .inr (5, [.int (nI n), .int (nI d), .int (nI rn), .long lo, .long hi, .long sl, .long sh, .ref qc, .ref qs])), (qc, .inl (cJ, 1024, .inr (.inl xs))), (qs, .inl (cJ, 1024, .inr (.inl rs))), (qb, .inr (0, [.ref qo, .int (nI 0)])), (qo, .inl (cB, 10242, .inl o))] sz) t) (va_A [(qf, .inr (1, [.ref qt])), (qr, .inr (5, [.int (nI n), .int (nI d), .int (nI rn), .long lo, .long hi, .long sl, .long sh, .ref qc, .ref qs])), (qc, .inl (cJ, 1024, .inr (.inl xs))), (qs, .inl (cJ, 1024, .inr (.inl rs))), (qb, .inr (0, [.ref qo, .int (nI 0)])), (qo, .inl (cB, 10242, .inl o))] sz)) 0 0 (va_A [(qf, .inr (1, [.ref qt])), (qr, .inr (5, [.int (nI n), .int (nI d), .int (nI rn), .long lo, .long hi, .long sl, .long sh, .ref qc, .ref qs])), (qc, .inl (cJ, 1024, .inr (.inl xs))), (qs, .inl (cJ, 1024, .inr (.inl rs))), (qb, .inr (0, [.ref qo, .int (nI 0)])), (qo, .inl (cB, 10242, .inl o))] sz) := by
  refine met_v (cc := cLi_lay) (maxL := 5) (S := Nat × (Nat → Int32) × (Nat → Bool)) (D := D) (wO := fun (u : Nat × (Nat → Int32) × (Nat → Bool)) => [(qf, .inr (1, [.ref qt])), (qr, .inr (5, [.int (nI n), .int (nI d), .int (nI rn), .long lo, .long hi, .long sl, .long sh, .ref qc, .ref qs])), (qc, .inl (cJ, 1024, .inr (.inl xs))), (qs, .inl (cJ, 1024, .inr (.inl rs))), (qb, .inr (0, [.ref qo, .int (nI u.1)])), (qo, .inl (cB, 10242, .inl u.2.1))]) (by decide) (Nat.le_of_ble_eq_true rfl) ?_
  intro p e s m below meth c hx hb hml hown hts hlocks hin hWd A hA hsz hP hK hD hS Q hret ls hl
  have hown : s.vm.findClass "ColumnForms$Listed" = some m.cls := hown
  have hl : lv_has ls 5 [(0, .ref qf), (1, .ref qr), (2, .ref qb)] := hl
  have hP : va_P D vwCl [(qf, .inr (1, [.ref qt])), (qr, .inr (5, [.int (nI n), .int (nI d), .int (nI rn), .long lo, .long hi, .long sl, .long sh, .ref qc, .ref qs])), (qc, .inl (cJ, 1024, .inr (.inl xs))), (qs, .inl (cJ, 1024, .inr (.inl rs))), (qb, .inr (0, [.ref qo, .int (nI 0)])), (qo, .inl (cB, 10242, .inl o))] s.heap := hP
  have hn := hR.1
  have hI := hR.2.1
  have hd1 := hI.2.1
  have hd0 := hI.2.2.2.2 hn0
  obtain ⟨pl, hpl⟩ : ∃ pl : Nat → Nat, ∀ i, rPl rs d (xs i) (pl i) := ⟨fun i => (rPl_ex (xs i) hI.1).choose, fun i => (rPl_ex (xs i) hI.1).choose_spec⟩
  refine lv_aload_n hx hb dLi_lay_0 rfl (lv_at hl 2 rfl) ?_
  refine lv_aload_n hx hb dLi_lay_1 rfl (lv_at hl 1 rfl) ?_
  refine va_get (D := D) (ci := 5) (v := .int (nI d)) (C := "ColumnForms$Row") (T := TRo) (N := 9) hx hb hts inRo hown hK hP 1 rfl rfl 1 (by decide) (hts _ tw_43) (fun _ h9 => h9) rfl dLi_lay_2 ?_
  refine lv_i2l hx hb dLi_lay_5 rfl ?_
  refine tp_l (show ((nI d).toInt64) = (lN d) from nI_l (by omega)) ?_
  refine lv_bipush (v := nI 16) hx hb dLi_lay_6 (by decide) ?_
  refine kc_v (wc := [(qb, .inr (0, [.ref qo, .int (nI 0)])), (qo, .inl (cB, 10242, .inl o))]) (wr := [(qf, .inr (1, [.ref qt])), (qr, .inr (5, [.int (nI n), .int (nI d), .int (nI rn), .long lo, .long hi, .long sl, .long sh, .ref qc, .ref qs])), (qc, .inl (cJ, 1024, .inr (.inl xs))), (qs, .inl (cJ, 1024, .inr (.inl rs)))]) hP hD hS hA [4, 5] [0, 1, 2, 3] rfl rfl (by decide) (by decide) (by decide) (fun hPc hDc => va_runV (As := [.long (lN d), .int (nI 16)]) (rest := []) ⟨hx, hb, hml, hown, hts⟩ (c_append l D cJ cB cI cF qb qo 0 o (fun _ => false) (lN d) 16 _ (oB_0 o _) (by omega) (by omega)) (cwV 2 hts (wsG_k tw_394 (wsG_k tw_395 (wsG_k tw_396 (wsG_k tw_3 (wsG_c tw_397))))) rfl rfl rfl (by decide +kernel) ⟨Nat.le_of_ble_eq_true rfl, Nat.le_of_ble_eq_true rfl⟩) ⟨cf_blind, va_recv hK hPc (ci := 0) (q0 := 0) rfl rfl, cf_pre hPc hK hDc hWd⟩ rfl rfl hl.1 rfl (lv_room (Nat.le_of_ble_eq_true rfl)) dLi_lay_8 ⟨Nat.le_of_ble_eq_true rfl, Nat.le_of_ble_eq_true rfl⟩) (fun u H locs hw hP hD hS => ?_)
  obtain ⟨o2_1, rfl⟩ : ∃ z, z = u := ⟨u, rfl⟩
  obtain ⟨e1, -⟩ := hw
  have e1 : oB o2_1 (0 + 16) (bA (fun _ => false) 0 (lN d) 16) := e1
  have hP : va_P D vwCl [(qf, .inr (1, [.ref qt])), (qr, .inr (5, [.int (nI n), .int (nI d), .int (nI rn), .long lo, .long hi, .long sl, .long sh, .ref qc, .ref qs])), (qc, .inl (cJ, 1024, .inr (.inl xs))), (qs, .inl (cJ, 1024, .inr (.inl rs))), (qb, .inr (0, [.ref qo, .int (nI (0 + 16))])), (qo, .inl (cB, 10242, .inl o2_1))] H := hP
  have hD : va_D A [(qf, .inr (1, [.ref qt])), (qr, .inr (5, [.int (nI n), .int (nI d), .int (nI rn), .long lo, .long hi, .long sl, .long sh, .ref qc, .ref qs])), (qc, .inl (cJ, 1024, .inr (.inl xs))), (qs, .inl (cJ, 1024, .inr (.inl rs))), (qb, .inr (0, [.ref qo, .int (nI (0 + 16))])), (qo, .inl (cB, 10242, .inl o2_1))] := hD
  refine lv_iconst (v := nI 0) hx hb dLi_lay_11 (by decide) ?_
  refine lv_istore_n (lv' := [(3, .int (nI 0)), (0, .ref qf), (1, .ref qr), (2, .ref qb)]) hx hb dLi_lay_12 rfl hl (by decide) rfl (fun ls hl => ?_)
  have lp1 : ∀ (k_lp1 : Nat) (k : Nat) (bq : Nat) (o1 : Nat → Int32) (B1 : Nat → Bool), (k ≤ d) → (bq = 16 + 64 * k) → (oB o1 bq B1) → (fld B1 0 16 (lN d)) → (∀ j, j < k → fld B1 (16 + 64 * j) 64 (rs j)) → (d - k < k_lp1) → ∀ (H : Heap) (locs : List Loc) (ls : Array Slot), va_P D vwCl [(qf, .inr (1, [.ref qt])), (qr, .inr (5, [.int (nI n), .int (nI d), .int (nI rn), .long lo, .long hi, .long sl, .long sh, .ref qc, .ref qs])), (qc, .inl (cJ, 1024, .inr (.inl xs))), (qs, .inl (cJ, 1024, .inr (.inl rs))), (qb, .inr (0, [.ref qo, .int (nI bq)])), (qo, .inl (cB, 10242, .inl o1))] H → va_D A [(qf, .inr (1, [.ref qt])), (qr, .inr (5, [.int (nI n), .int (nI d), .int (nI rn), .long lo, .long hi, .long sl, .long sh, .ref qc, .ref qs])), (qc, .inl (cJ, 1024, .inr (.inl xs))), (qs, .inl (cJ, 1024, .inr (.inl rs))), (qb, .inr (0, [.ref qo, .int (nI bq)])), (qo, .inl (cB, 10242, .inl o1))] → va_S A s.heap H locs → lv_has ls 5 [(0, .ref qf), (1, .ref qr), (2, .ref qb), (3, .int (nI k))] → W p l e ({ frames := 3, cells := 0, slots := 0, locals := 64 }) s m ([.ref qf, .ref qr, .ref qb].toArray) below meth c H locs (0) (0) Q (F0 m 13 ls []) := by
    intro k_lp1
    induction k_lp1 with
    | zero => intro k bq o1 B1 g1 g2 g3 g4 g5 hfu; exact absurd hfu (by omega)
    | succ k_lp1 ih_lp1 =>
      intro k bq o1 B1 g1 g2 g3 g4 g5 hfu H locs ls hP hD hS hl
      refine lv_iload_n hx hb dLi_lay_13 rfl (lv_at hl 3 rfl) ?_
      refine lv_aload_n hx hb dLi_lay_14 rfl (lv_at hl 1 rfl) ?_
      refine va_get (D := D) (ci := 5) (v := .int (nI d)) (C := "ColumnForms$Row") (T := TRo) (N := 9) hx hb hts inRo hown hK hP 1 rfl rfl 1 (by decide) (hts _ tw_43) (fun _ h9 => h9) rfl dLi_lay_15 ?_
      refine lv_icmp_ge (tgt := 38) hx hb dLi_lay_18 (by decide) (fun c18 => ?_) (fun c18 => ?_)
      · have c18 : d ≤ k := (nI_leI (by omega) (by omega)).mp c18
        refine lv_aload_n hx hb dLi_lay_38 rfl (lv_at hl 1 rfl) ?_
        refine va_get (D := D) (ci := 5) (v := .int (nI d)) (C := "ColumnForms$Row") (T := TRo) (N := 9) hx hb hts inRo hown hK hP 1 rfl rfl 1 (by decide) (hts _ tw_43) (fun _ h9 => h9) rfl dLi_lay_39 ?_
        refine lv_iconst (v := nI 1) hx hb dLi_lay_42 (by decide) ?_
        refine lv_isub hx hb dLi_lay_43 ?_
        refine tp_i (show ((nI d) - (nI 1)) = (nI (d - 1)) from pk_sub (by omega)) ?_
        refine lv_i2l hx hb dLi_lay_44 rfl ?_
        refine tp_l (show ((nI (d - 1)).toInt64) = (lN (d - 1)) from nI_l (by omega)) ?_
        refine kc_i (wc := []) (wr := [(qf, .inr (1, [.ref qt])), (qr, .inr (5, [.int (nI n), .int (nI d), .int (nI rn), .long lo, .long hi, .long sl, .long sh, .ref qc, .ref qs])), (qc, .inl (cJ, 1024, .inr (.inl xs))), (qs, .inl (cJ, 1024, .inr (.inl rs))), (qb, .inr (0, [.ref qo, .int (nI bq)])), (qo, .inl (cB, 10242, .inl o1))]) hP hD hS hA [] [0, 1, 2, 3, 4, 5] rfl rfl (by decide) (by decide) (by decide) (fun hPc hDc => va_runSN (As := [.long (lN (d - 1))]) (rest := []) ⟨hx, hb, hml, hown, hts⟩ (c_bits l D cJ cB cI cF (lN (d - 1)) _) (⟨va_cnB 1 hts (wsG_c tw_337) rfl rfl rfl (hWd.nest 13 rfl) (hts _ tw_1) (by decide +kernel) ⟨Nat.le_of_ble_eq_true rfl, Nat.le_of_ble_eq_true rfl⟩, hts _ tw_336, trivial⟩) ⟨cf_blind, cf_pre hPc hK hDc hWd⟩ rfl rfl hl.1 rfl (lv_room (Nat.le_of_ble_eq_true rfl)) dLi_lay_45 ⟨Nat.le_of_ble_eq_true rfl, Nat.le_of_ble_eq_true rfl⟩) (fun r u H locs hw hP hD hS => ?_)
        obtain ⟨rfl, -⟩ := hw
        have hP : va_P D vwCl [(qf, .inr (1, [.ref qt])), (qr, .inr (5, [.int (nI n), .int (nI d), .int (nI rn), .long lo, .long hi, .long sl, .long sh, .ref qc, .ref qs])), (qc, .inl (cJ, 1024, .inr (.inl xs))), (qs, .inl (cJ, 1024, .inr (.inl rs))), (qb, .inr (0, [.ref qo, .int (nI bq)])), (qo, .inl (cB, 10242, .inl o1))] H := hP
        have hD : va_D A [(qf, .inr (1, [.ref qt])), (qr, .inr (5, [.int (nI n), .int (nI d), .int (nI rn), .long lo, .long hi, .long sl, .long sh, .ref qc, .ref qs])), (qc, .inl (cJ, 1024, .inr (.inl xs))), (qs, .inl (cJ, 1024, .inr (.inl rs))), (qb, .inr (0, [.ref qo, .int (nI bq)])), (qo, .inl (cB, 10242, .inl o1))] := hD
        refine tp_i (show (nI (bln (uN (lN (d - 1))))) = (nI (bln (d - 1))) from congrArg (fun z => nI (bln z)) (uN_lN (by omega))) ?_
        obtain ⟨wd, hwd⟩ : ∃ z, z = bln (d - 1) := ⟨_, rfl⟩
        have hw1 : wd ≤ 10 := by rw [hwd]; exact bln_d (by omega)
        refine tp_i (show (nI (bln (d - 1))) = (nI wd) from congrArg nI hwd.symm) ?_
        refine lv_istore_n (lv' := [(3, .int (nI wd)), (0, .ref qf), (1, .ref qr), (2, .ref qb)]) hx hb dLi_lay_48 rfl hl (by decide) rfl (fun ls hl => ?_)
        refine lv_iconst (v := nI 0) hx hb dLi_lay_49 (by decide) ?_
        refine lv_istore (lv' := [(4, .int (nI 0)), (3, .int (nI wd)), (0, .ref qf), (1, .ref qr), (2, .ref qb)]) hx hb dLi_lay_50 hl (by decide) rfl (fun ls hl => ?_)
        have lp2 : ∀ (k_lp2 : Nat) (i : Nat) (b2 : Nat) (o3 : Nat → Int32) (B3 : Nat → Bool), (i ≤ n) → (b2 = 16 + 64 * d + i * wd) → (oB o3 b2 B3) → (fld B3 0 16 (lN d)) → (∀ j, j < d → fld B3 (16 + 64 * j) 64 (rs j)) → (∀ j, j < i → fld B3 (16 + 64 * d + j * wd) wd (lN (pl j))) → (n - i < k_lp2) → ∀ (H : Heap) (locs : List Loc) (ls : Array Slot), va_P D vwCl [(qf, .inr (1, [.ref qt])), (qr, .inr (5, [.int (nI n), .int (nI d), .int (nI rn), .long lo, .long hi, .long sl, .long sh, .ref qc, .ref qs])), (qc, .inl (cJ, 1024, .inr (.inl xs))), (qs, .inl (cJ, 1024, .inr (.inl rs))), (qb, .inr (0, [.ref qo, .int (nI b2)])), (qo, .inl (cB, 10242, .inl o3))] H → va_D A [(qf, .inr (1, [.ref qt])), (qr, .inr (5, [.int (nI n), .int (nI d), .int (nI rn), .long lo, .long hi, .long sl, .long sh, .ref qc, .ref qs])), (qc, .inl (cJ, 1024, .inr (.inl xs))), (qs, .inl (cJ, 1024, .inr (.inl rs))), (qb, .inr (0, [.ref qo, .int (nI b2)])), (qo, .inl (cB, 10242, .inl o3))] → va_S A s.heap H locs → lv_has ls 5 [(0, .ref qf), (1, .ref qr), (2, .ref qb), (3, .int (nI wd)), (4, .int (nI i))] → W p l e ({ frames := 3, cells := 0, slots := 0, locals := 64 }) s m ([.ref qf, .ref qr, .ref qb].toArray) below meth c H locs (0) (0) Q (F0 m 52 ls []) := by
          intro k_lp2
          induction k_lp2 with
          | zero => intro i b2 o3 B3 j1 j2 j3 j4 j5 j6 hfu; exact absurd hfu (by omega)
          | succ k_lp2 ih_lp2 =>
            intro i b2 o3 B3 j1 j2 j3 j4 j5 j6 hfu H locs ls hP hD hS hl
            have hm : i * wd ≤ 1024 * 10 := Nat.mul_le_mul (by omega) hw1
            have hp1 := (hpl i).1
            refine lv_iload hx hb dLi_lay_52 (lv_at hl 4 rfl) ?_
            refine lv_aload_n hx hb dLi_lay_54 rfl (lv_at hl 1 rfl) ?_
            refine va_get (D := D) (ci := 5) (v := .int (nI n)) (C := "ColumnForms$Row") (T := TRo) (N := 9) hx hb hts inRo hown hK hP 1 rfl rfl 0 (by decide) (hts _ tw_41) (fun _ h9 => h9) rfl dLi_lay_55 ?_
            refine lv_icmp_ge (tgt := 83) hx hb dLi_lay_58 (by decide) (fun c58 => ?_) (fun c58 => ?_)
            · have c58 : n ≤ i := (nI_leI (by omega) (by omega)).mp c58
              exact hret (b2, o3, B3) _ _ _ _ _ _ ⟨j3, by subst hwd; exact ⟨rs, d, pl, hI, fun i _ => hpl i, by have e : i = n := (by omega); rw [← e]; exact j2, j4, j5, fun j hj => j6 j (by omega)⟩, by show b2 ≤ _; omega, trivial⟩ (hP.sub [0, 1, 2, 3, 4, 5] rfl) (hD.sub [0, 1, 2, 3, 4, 5] (by decide) rfl) hS (Nat.le_of_ble_eq_true rfl) (Nat.le_of_ble_eq_true rfl) dLi_lay_83
            · have c58 : ¬ n ≤ i := fun h => c58 ((nI_leI (by omega) (by omega)).mpr h)
              refine lv_aload_n hx hb dLi_lay_61 rfl (lv_at hl 2 rfl) ?_
              refine lv_aload_n hx hb dLi_lay_62 rfl (lv_at hl 1 rfl) ?_
              refine lv_aload_n hx hb dLi_lay_63 rfl (lv_at hl 1 rfl) ?_
              refine lv_iload hx hb dLi_lay_64 (lv_at hl 4 rfl) ?_
              refine kc_l (wc := [(qr, .inr (5, [.int (nI n), .int (nI d), .int (nI rn), .long lo, .long hi, .long sl, .long sh, .ref qc, .ref qs])), (qc, .inl (cJ, 1024, .inr (.inl xs)))]) (wr := [(qf, .inr (1, [.ref qt])), (qs, .inl (cJ, 1024, .inr (.inl rs))), (qb, .inr (0, [.ref qo, .int (nI b2)])), (qo, .inl (cB, 10242, .inl o3))]) hP hD hS hA [1, 2] [0, 3, 4, 5] rfl rfl (by decide) (by decide) (by decide) (fun hPc hDc => va_runV (As := [.int (nI i)]) (rest := [.ref qr, .ref qb]) ⟨hx, hb, hml, hown, hts⟩ (c_at l D cJ cB cI cF qr n d rn lo hi sl sh qc qs xs i _ (by omega) (by omega)) (cwV 1 hts (wsG_k tw_406 (wsG_k tw_257 (wsG_k tw_258 (wsG_k tw_2 (wsG_c tw_259))))) rfl rfl rfl (by decide +kernel) ⟨Nat.le_of_ble_eq_true rfl, Nat.le_of_ble_eq_true rfl⟩) ⟨cf_blind, va_recv hK hPc (ci := 5) (q0 := 0) rfl rfl, cf_pre hPc hK hDc hWd⟩ rfl rfl hl.1 rfl (lv_room (Nat.le_of_ble_eq_true rfl)) dLi_lay_66 ⟨Nat.le_of_ble_eq_true rfl, Nat.le_of_ble_eq_true rfl⟩) (fun r u H locs hw hP hD hS => ?_)
              obtain ⟨rfl, -⟩ := hw
              have hP : va_P D vwCl [(qf, .inr (1, [.ref qt])), (qs, .inl (cJ, 1024, .inr (.inl rs))), (qb, .inr (0, [.ref qo, .int (nI b2)])), (qo, .inl (cB, 10242, .inl o3)), (qr, .inr (5, [.int (nI n), .int (nI d), .int (nI rn), .long lo, .long hi, .long sl, .long sh, .ref qc, .ref qs])), (qc, .inl (cJ, 1024, .inr (.inl xs)))] H := hP
              have hD : va_D A [(qf, .inr (1, [.ref qt])), (qs, .inl (cJ, 1024, .inr (.inl rs))), (qb, .inr (0, [.ref qo, .int (nI b2)])), (qo, .inl (cB, 10242, .inl o3)), (qr, .inr (5, [.int (nI n), .int (nI d), .int (nI rn), .long lo, .long hi, .long sl, .long sh, .ref qc, .ref qs])), (qc, .inl (cJ, 1024, .inr (.inl xs)))] := hD
              refine kc_i (wc := [(qr, .inr (5, [.int (nI n), .int (nI d), .int (nI rn), .long lo, .long hi, .long sl, .long sh, .ref qc, .ref qs])), (qs, .inl (cJ, 1024, .inr (.inl rs)))]) (wr := [(qf, .inr (1, [.ref qt])), (qb, .inr (0, [.ref qo, .int (nI b2)])), (qo, .inl (cB, 10242, .inl o3)), (qc, .inl (cJ, 1024, .inr (.inl xs)))]) hP hD hS hA [4, 1] [0, 2, 3, 5] rfl rfl (by decide) (by decide) (by decide) (fun hPc hDc => va_runV (As := [.long (xs i)]) (rest := [.ref qb]) ⟨hx, hb, hml, hown, hts⟩ (c_placeOf l D cJ cB cI cF qr n d rn lo hi sl sh qc qs rs (xs i) (pl i) _ (by omega) (hpl i)) (cwV 1 hts (wsG_k tw_407 (wsG_k tw_271 (wsG_k tw_272 (wsG_k tw_2 (wsG_c tw_273))))) rfl rfl rfl (by decide +kernel) ⟨Nat.le_of_ble_eq_true rfl, Nat.le_of_ble_eq_true rfl⟩) ⟨cf_blind, va_recv hK hPc (ci := 5) (q0 := 0) rfl rfl, cf_pre hPc hK hDc hWd⟩ rfl rfl hl.1 rfl (lv_room (Nat.le_of_ble_eq_true rfl)) dLi_lay_69 ⟨Nat.le_of_ble_eq_true rfl, Nat.le_of_ble_eq_true rfl⟩) (fun r u H locs hw hP hD hS => ?_)
              obtain ⟨rfl, -⟩ := hw
              have hP : va_P D vwCl [(qf, .inr (1, [.ref qt])), (qb, .inr (0, [.ref qo, .int (nI b2)])), (qo, .inl (cB, 10242, .inl o3)), (qc, .inl (cJ, 1024, .inr (.inl xs))), (qr, .inr (5, [.int (nI n), .int (nI d), .int (nI rn), .long lo, .long hi, .long sl, .long sh, .ref qc, .ref qs])), (qs, .inl (cJ, 1024, .inr (.inl rs)))] H := hP
              have hD : va_D A [(qf, .inr (1, [.ref qt])), (qb, .inr (0, [.ref qo, .int (nI b2)])), (qo, .inl (cB, 10242, .inl o3)), (qc, .inl (cJ, 1024, .inr (.inl xs))), (qr, .inr (5, [.int (nI n), .int (nI d), .int (nI rn), .long lo, .long hi, .long sl, .long sh, .ref qc, .ref qs])), (qs, .inl (cJ, 1024, .inr (.inl rs)))] := hD
              refine lv_i2l hx hb dLi_lay_72 rfl ?_
              refine tp_l (show ((nI (pl i)).toInt64) = (lN (pl i)) from nI_l (by omega)) ?_
              refine lv_iload_n hx hb dLi_lay_73 rfl (lv_at hl 3 rfl) ?_
              refine kc_v (wc := [(qb, .inr (0, [.ref qo, .int (nI b2)])), (qo, .inl (cB, 10242, .inl o3))]) (wr := [(qf, .inr (1, [.ref qt])), (qc, .inl (cJ, 1024, .inr (.inl xs))), (qr, .inr (5, [.int (nI n), .int (nI d), .int (nI rn), .long lo, .long hi, .long sl, .long sh, .ref qc, .ref qs])), (qs, .inl (cJ, 1024, .inr (.inl rs)))]) hP hD hS hA [1, 2] [0, 3, 4, 5] rfl rfl (by decide) (by decide) (by decide) (fun hPc hDc => va_runV (As := [.long (lN (pl i)), .int (nI wd)]) (rest := []) ⟨hx, hb, hml, hown, hts⟩ (c_append l D cJ cB cI cF qb qo b2 o3 B3 (lN (pl i)) wd _ (j3) (by omega) (by omega)) (cwV 2 hts (wsG_k tw_394 (wsG_k tw_395 (wsG_k tw_396 (wsG_k tw_3 (wsG_c tw_397))))) rfl rfl rfl (by decide +kernel) ⟨Nat.le_of_ble_eq_true rfl, Nat.le_of_ble_eq_true rfl⟩) ⟨cf_blind, va_recv hK hPc (ci := 0) (q0 := 0) rfl rfl, cf_pre hPc hK hDc hWd⟩ rfl rfl hl.1 rfl (lv_room (Nat.le_of_ble_eq_true rfl)) dLi_lay_74 ⟨Nat.le_of_ble_eq_true rfl, Nat.le_of_ble_eq_true rfl⟩) (fun u H locs hw hP hD hS => ?_)
              obtain ⟨o2_2, rfl⟩ : ∃ z, z = u := ⟨u, rfl⟩
              obtain ⟨f9, -⟩ := hw
              have f9 : oB o2_2 (b2 + wd) (bA B3 b2 (lN (pl i)) wd) := f9
              have hP : va_P D vwCl [(qf, .inr (1, [.ref qt])), (qc, .inl (cJ, 1024, .inr (.inl xs))), (qr, .inr (5, [.int (nI n), .int (nI d), .int (nI rn), .long lo, .long hi, .long sl, .long sh, .ref qc, .ref qs])), (qs, .inl (cJ, 1024, .inr (.inl rs))), (qb, .inr (0, [.ref qo, .int (nI (b2 + wd))])), (qo, .inl (cB, 10242, .inl o2_2))] H := hP
              have hD : va_D A [(qf, .inr (1, [.ref qt])), (qc, .inl (cJ, 1024, .inr (.inl xs))), (qr, .inr (5, [.int (nI n), .int (nI d), .int (nI rn), .long lo, .long hi, .long sl, .long sh, .ref qc, .ref qs])), (qs, .inl (cJ, 1024, .inr (.inl rs))), (qb, .inr (0, [.ref qo, .int (nI (b2 + wd))])), (qo, .inl (cB, 10242, .inl o2_2))] := hD
              refine lv_iinc (v := nI (i + 1)) (lv' := [(4, .int (nI (i + 1))), (0, .ref qf), (1, .ref qr), (2, .ref qb), (3, .int (nI wd))]) hx hb dLi_lay_77 hl (k := 4) rfl (by rw [show (Int32.ofInt 1) = nI 1 from by decide]; exact nI_add _ _) (by decide) rfl (fun ls hl => ?_)
              refine lv_goto (tgt := 52) hx hb dLi_lay_80 (by decide) ?_
              exact ih_lp2 (i + 1) (b2 + wd) o2_2 (bA B3 b2 (lN (pl i)) wd) (by omega) (by rw [Nat.succ_mul i wd]; omega) (f9) (fld_keep j4 (by omega)) (fld_all (a := fun j => 16 + 64 * j) (wd := fun _ => 64) (vl := rs) j5 (fun j hj => by show 16 + 64 * j + 64 ≤ b2; omega)) (fld_add (a := fun j => 16 + 64 * d + j * wd) (wd := fun _ => wd) (vl := fun j => lN (pl j)) j6 (fun j hj => by have := mul_lo (w := wd) hj; show 16 + 64 * d + j * wd + wd ≤ b2; omega) (by show 16 + 64 * d + i * wd = b2; omega) rfl rfl) (by omega) _ _ _ (hP.sub [0, 2, 1, 3, 4, 5] rfl) (hD.sub [0, 2, 1, 3, 4, 5] (by decide) rfl) hS (lv_sub hl [1, 2, 3, 4, 0] rfl)
        exact lp2 (n - 0 + 1) 0 bq o1 B1 (Nat.zero_le n) (by omega) (g3) (g4) (fun j hj => g5 j (by omega)) (fun j hj => absurd hj (by omega)) (by omega) _ _ _ (hP.sub [0, 1, 2, 3, 4, 5] rfl) (hD.sub [0, 1, 2, 3, 4, 5] (by decide) rfl) hS (lv_sub hl [2, 3, 4, 1, 0] rfl)
      · have c18 : ¬ d ≤ k := fun h => c18 ((nI_leI (by omega) (by omega)).mpr h)
        refine lv_aload_n hx hb dLi_lay_21 rfl (lv_at hl 2 rfl) ?_
        refine lv_aload_n hx hb dLi_lay_22 rfl (lv_at hl 1 rfl) ?_
        refine lv_iload_n hx hb dLi_lay_23 rfl (lv_at hl 3 rfl) ?_
        refine kc_l (wc := [(qr, .inr (5, [.int (nI n), .int (nI d), .int (nI rn), .long lo, .long hi, .long sl, .long sh, .ref qc, .ref qs])), (qs, .inl (cJ, 1024, .inr (.inl rs)))]) (wr := [(qf, .inr (1, [.ref qt])), (qc, .inl (cJ, 1024, .inr (.inl xs))), (qb, .inr (0, [.ref qo, .int (nI bq)])), (qo, .inl (cB, 10242, .inl o1))]) hP hD hS hA [1, 3] [0, 2, 4, 5] rfl rfl (by decide) (by decide) (by decide) (fun hPc hDc => va_runV (As := [.int (nI k)]) (rest := [.ref qb]) ⟨hx, hb, hml, hown, hts⟩ (c_difAt l D cJ cB cI cF qr n d rn lo hi sl sh qc qs rs k _ (by omega) (by omega)) (cwV 1 hts (wsG_k tw_405 (wsG_k tw_275 (wsG_k tw_276 (wsG_k tw_2 (wsG_c tw_277))))) rfl rfl rfl (by decide +kernel) ⟨Nat.le_of_ble_eq_true rfl, Nat.le_of_ble_eq_true rfl⟩) ⟨cf_blind, va_recv hK hPc (ci := 5) (q0 := 0) rfl rfl, cf_pre hPc hK hDc hWd⟩ rfl rfl hl.1 rfl (lv_room (Nat.le_of_ble_eq_true rfl)) dLi_lay_24 ⟨Nat.le_of_ble_eq_true rfl, Nat.le_of_ble_eq_true rfl⟩) (fun r u H locs hw hP hD hS => ?_)
        obtain ⟨rfl, -⟩ := hw
        have hP : va_P D vwCl [(qf, .inr (1, [.ref qt])), (qc, .inl (cJ, 1024, .inr (.inl xs))), (qb, .inr (0, [.ref qo, .int (nI bq)])), (qo, .inl (cB, 10242, .inl o1)), (qr, .inr (5, [.int (nI n), .int (nI d), .int (nI rn), .long lo, .long hi, .long sl, .long sh, .ref qc, .ref qs])), (qs, .inl (cJ, 1024, .inr (.inl rs)))] H := hP
        have hD : va_D A [(qf, .inr (1, [.ref qt])), (qc, .inl (cJ, 1024, .inr (.inl xs))), (qb, .inr (0, [.ref qo, .int (nI bq)])), (qo, .inl (cB, 10242, .inl o1)), (qr, .inr (5, [.int (nI n), .int (nI d), .int (nI rn), .long lo, .long hi, .long sl, .long sh, .ref qc, .ref qs])), (qs, .inl (cJ, 1024, .inr (.inl rs)))] := hD
        refine lv_bipush (v := nI 64) hx hb dLi_lay_27 (by decide) ?_
        refine kc_v (wc := [(qb, .inr (0, [.ref qo, .int (nI bq)])), (qo, .inl (cB, 10242, .inl o1))]) (wr := [(qf, .inr (1, [.ref qt])), (qc, .inl (cJ, 1024, .inr (.inl xs))), (qr, .inr (5, [.int (nI n), .int (nI d), .int (nI rn), .long lo, .long hi, .long sl, .long sh, .ref qc, .ref qs])), (qs, .inl (cJ, 1024, .inr (.inl rs)))]) hP hD hS hA [2, 3] [0, 1, 4, 5] rfl rfl (by decide) (by decide) (by decide) (fun hPc hDc => va_runV (As := [.long (rs k), .int (nI 64)]) (rest := []) ⟨hx, hb, hml, hown, hts⟩ (c_append l D cJ cB cI cF qb qo bq o1 B1 (rs k) 64 _ (g3) (by omega) (by omega)) (cwV 2 hts (wsG_k tw_394 (wsG_k tw_395 (wsG_k tw_396 (wsG_k tw_3 (wsG_c tw_397))))) rfl rfl rfl (by decide +kernel) ⟨Nat.le_of_ble_eq_true rfl, Nat.le_of_ble_eq_true rfl⟩) ⟨cf_blind, va_recv hK hPc (ci := 0) (q0 := 0) rfl rfl, cf_pre hPc hK hDc hWd⟩ rfl rfl hl.1 rfl (lv_room (Nat.le_of_ble_eq_true rfl)) dLi_lay_29 ⟨Nat.le_of_ble_eq_true rfl, Nat.le_of_ble_eq_true rfl⟩) (fun u H locs hw hP hD hS => ?_)
        obtain ⟨o2_3, rfl⟩ : ∃ z, z = u := ⟨u, rfl⟩
        obtain ⟨f9, -⟩ := hw
        have f9 : oB o2_3 (bq + 64) (bA B1 bq (rs k) 64) := f9
        have hP : va_P D vwCl [(qf, .inr (1, [.ref qt])), (qc, .inl (cJ, 1024, .inr (.inl xs))), (qr, .inr (5, [.int (nI n), .int (nI d), .int (nI rn), .long lo, .long hi, .long sl, .long sh, .ref qc, .ref qs])), (qs, .inl (cJ, 1024, .inr (.inl rs))), (qb, .inr (0, [.ref qo, .int (nI (bq + 64))])), (qo, .inl (cB, 10242, .inl o2_3))] H := hP
        have hD : va_D A [(qf, .inr (1, [.ref qt])), (qc, .inl (cJ, 1024, .inr (.inl xs))), (qr, .inr (5, [.int (nI n), .int (nI d), .int (nI rn), .long lo, .long hi, .long sl, .long sh, .ref qc, .ref qs])), (qs, .inl (cJ, 1024, .inr (.inl rs))), (qb, .inr (0, [.ref qo, .int (nI (bq + 64))])), (qo, .inl (cB, 10242, .inl o2_3))] := hD
        refine lv_iinc (v := nI (k + 1)) (lv' := [(3, .int (nI (k + 1))), (0, .ref qf), (1, .ref qr), (2, .ref qb)]) hx hb dLi_lay_32 hl (k := 3) rfl (by rw [show (Int32.ofInt 1) = nI 1 from by decide]; exact nI_add _ _) (by decide) rfl (fun ls hl => ?_)
        refine lv_goto (tgt := 13) hx hb dLi_lay_35 (by decide) ?_
        exact ih_lp1 (k + 1) (bq + 64) o2_3 (bA B1 bq (rs k) 64) (by omega) (by omega) (f9) (fld_keep g4 (by omega)) (fld_add (a := fun j => 16 + 64 * j) (wd := fun _ => 64) (vl := rs) g5 (fun j hj => by show 16 + 64 * j + 64 ≤ bq; omega) (by show 16 + 64 * k = bq; omega) rfl rfl) (by omega) _ _ _ (hP.sub [0, 2, 1, 3, 4, 5] rfl) (hD.sub [0, 2, 1, 3, 4, 5] (by decide) rfl) hS (lv_sub hl [1, 2, 3, 0] rfl)
  exact lp1 (d - 0 + 1) 0 (0 + 16) o2_1 (bA (fun _ => false) 0 (lN d) 16) (Nat.zero_le d) (rfl) (e1) (bA_fld _ _ _ _) (fun j hj => absurd hj (by omega)) (by omega) _ _ _ (hP.sub [0, 1, 2, 3, 4, 5] rfl) (hD.sub [0, 1, 2, 3, 4, 5] (by decide) rfl) hS (lv_sub hl [1, 2, 3, 0] rfl)

set_option maxHeartbeats 4000000 in
set_option maxRecDepth 100000 in
theorem c_liR (l : Launch) (D : va_G) (cJ cB cI cF : ClassId) (qf : Nat) (qt : Nat) (qb : Nat) (qo : Nat) (bc : Nat) (o : Nat → Int32) (B : Nat → Bool) (xs : Nat → Int64) (n : Nat) (i : Nat) (sz : Nat) (hc : oB o bc B) (hbm : bc ≤ 81936) (hn : n ≤ 1024) (hL : lL xs n bc B) (hi1 : i < n) : Met l yLi_read (Cond.code yLi_read cLi_read 5 (some .long) :: wsG) ({ frames := 3, cells := 0, slots := 0, locals := 72 }) (va_Pc [.ref qf, .ref qb, .int (nI i)] (cfPre D (cfT cJ cB cI cF) [(qf, .inr (1, [.ref qt])), (qb, .inr (0, [.ref qo, .int (nI bc)])), (qo, .inl (cB, 10242, .inl o))] sz)) (va_Ql (fun (r : Int64) (u : Unit) => r = xs i ∧ True) (fun u t => cfPost D ((fun (u : Unit) => [(qf, .inr (1, [.ref qt])), (qb, .inr (0, [.ref qo, .int (nI bc)])), (qo, .inl (cB, 10242, .inl o))]) u) (va_A [(qf, .inr (1, [.ref qt])), (qb, .inr (0, [.ref qo, .int (nI bc)])), (qo, .inl (cB, 10242, .inl o))] sz) t) (va_A [(qf, .inr (1, [.ref qt])), (qb, .inr (0, [.ref qo, .int (nI bc)])), (qo, .inl (cB, 10242, .inl o))] sz)) 0 0 (va_A [(qf, .inr (1, [.ref qt])), (qb, .inr (0, [.ref qo, .int (nI bc)])), (qo, .inl (cB, 10242, .inl o))] sz) := by
  refine met_l (cc := cLi_read) (maxL := 5) (S := Unit) (D := D) (wO := fun (u : Unit) => [(qf, .inr (1, [.ref qt])), (qb, .inr (0, [.ref qo, .int (nI bc)])), (qo, .inl (cB, 10242, .inl o))]) (by decide) (Nat.le_of_ble_eq_true rfl) ?_
  intro p e s m below meth c hx hb hml hown hts hlocks hin hWd A hA hsz hP hK hD hS Q hret ls hl
  have hown : s.vm.findClass "ColumnForms$Listed" = some m.cls := hown
  have hl : lv_has ls 5 [(0, .ref qf), (1, .ref qb), (2, .int (nI i))] := hl
  have hP : va_P D vwCl [(qf, .inr (1, [.ref qt])), (qb, .inr (0, [.ref qo, .int (nI bc)])), (qo, .inl (cB, 10242, .inl o))] s.heap := hP
  obtain ⟨rs, d, pl, hI, hp, k1, k2, k3, k4⟩ := hL
  have hd1 := hI.2.1
  have hd0 := hI.2.2.2.2 (by omega)
  have hw1 : bln (d - 1) ≤ 10 := bln_d (by omega)
  have hm0 : n * bln (d - 1) ≤ 1024 * 10 := Nat.mul_le_mul hn hw1
  have hm := mul_lo (w := bln (d - 1)) hi1
  have hq := rPl_lt hI hi1 (hp i hi1)
  have hq1 := hq.1
  refine lv_aload_n hx hb dLi_read_0 rfl (lv_at hl 1 rfl) ?_
  refine kc_i (wc := [(qb, .inr (0, [.ref qo, .int (nI bc)])), (qo, .inl (cB, 10242, .inl o))]) (wr := [(qf, .inr (1, [.ref qt]))]) hP hD hS hA [1, 2] [0] rfl rfl (by decide) (by decide) (by decide) (fun hPc hDc => va_runS (As := [.ref qb]) (rest := []) ⟨hx, hb, hml, hown, hts⟩ (c_liD l D cJ cB cI cF qb qo bc o B d _ (hc) (hbm) (by omega) (k2) (by omega)) (va_cwS 1 hts (wsG_k tw_461 (wsG_k tw_462 (wsG_k tw_7 (wsG_c tw_463)))) rfl rfl rfl (by decide +kernel) ⟨Nat.le_of_ble_eq_true rfl, Nat.le_of_ble_eq_true rfl⟩) ⟨cf_blind, cf_pre hPc hK hDc hWd⟩ rfl rfl hl.1 rfl (lv_room (Nat.le_of_ble_eq_true rfl)) dLi_read_1 ⟨Nat.le_of_ble_eq_true rfl, Nat.le_of_ble_eq_true rfl⟩) (fun r u H locs hw hP hD hS => ?_)
  obtain ⟨rfl, -⟩ := hw
  have hP : va_P D vwCl [(qf, .inr (1, [.ref qt])), (qb, .inr (0, [.ref qo, .int (nI bc)])), (qo, .inl (cB, 10242, .inl o))] H := hP
  have hD : va_D A [(qf, .inr (1, [.ref qt])), (qb, .inr (0, [.ref qo, .int (nI bc)])), (qo, .inl (cB, 10242, .inl o))] := hD
  refine lv_istore_n (lv' := [(3, .int (nI d)), (0, .ref qf), (1, .ref qb), (2, .int (nI i))]) hx hb dLi_read_4 rfl hl (by decide) rfl (fun ls hl => ?_)
  refine lv_iload_n hx hb dLi_read_5 rfl (lv_at hl 0 rfl) ?_
  refine lv_iconst (v := nI 1) hx hb dLi_read_6 (by decide) ?_
  refine lv_isub hx hb dLi_read_7 ?_
  refine tp_i (show ((nI d) - (nI 1)) = (nI (d - 1)) from pk_sub (by omega)) ?_
  refine lv_i2l hx hb dLi_read_8 rfl ?_
  refine tp_l (show ((nI (d - 1)).toInt64) = (lN (d - 1)) from nI_l (by omega)) ?_
  refine kc_i (wc := []) (wr := [(qf, .inr (1, [.ref qt])), (qb, .inr (0, [.ref qo, .int (nI bc)])), (qo, .inl (cB, 10242, .inl o))]) hP hD hS hA [] [0, 1, 2] rfl rfl (by decide) (by decide) (by decide) (fun hPc hDc => va_runSN (As := [.long (lN (d - 1))]) (rest := []) ⟨hx, hb, hml, hown, hts⟩ (c_bits l D cJ cB cI cF (lN (d - 1)) _) (⟨va_cnB 1 hts (wsG_c tw_337) rfl rfl rfl (hWd.nest 13 rfl) (hts _ tw_1) (by decide +kernel) ⟨Nat.le_of_ble_eq_true rfl, Nat.le_of_ble_eq_true rfl⟩, hts _ tw_336, trivial⟩) ⟨cf_blind, cf_pre hPc hK hDc hWd⟩ rfl rfl hl.1 rfl (lv_room (Nat.le_of_ble_eq_true rfl)) dLi_read_9 ⟨Nat.le_of_ble_eq_true rfl, Nat.le_of_ble_eq_true rfl⟩) (fun r u H locs hw hP hD hS => ?_)
  obtain ⟨rfl, -⟩ := hw
  have hP : va_P D vwCl [(qf, .inr (1, [.ref qt])), (qb, .inr (0, [.ref qo, .int (nI bc)])), (qo, .inl (cB, 10242, .inl o))] H := hP
  have hD : va_D A [(qf, .inr (1, [.ref qt])), (qb, .inr (0, [.ref qo, .int (nI bc)])), (qo, .inl (cB, 10242, .inl o))] := hD
  refine tp_i (show (nI (bln (uN (lN (d - 1))))) = (nI (bln (d - 1))) from congrArg (fun z => nI (bln z)) (uN_lN (by omega))) ?_
  refine lv_istore (lv' := [(4, .int (nI (bln (d - 1)))), (3, .int (nI d)), (0, .ref qf), (1, .ref qb), (2, .int (nI i))]) hx hb dLi_read_12 hl (by decide) rfl (fun ls hl => ?_)
  refine lv_aload_n hx hb dLi_read_14 rfl (lv_at hl 3 rfl) ?_
  refine lv_aload_n hx hb dLi_read_15 rfl (lv_at hl 3 rfl) ?_
  refine lv_iload_n hx hb dLi_read_16 rfl (lv_at hl 1 rfl) ?_
  refine kc_i (wc := []) (wr := [(qf, .inr (1, [.ref qt])), (qb, .inr (0, [.ref qo, .int (nI bc)])), (qo, .inl (cB, 10242, .inl o))]) hP hD hS hA [] [0, 1, 2] rfl rfl (by decide) (by decide) (by decide) (fun hPc hDc => va_runS (As := [.int (nI d)]) (rest := [.ref qb, .ref qb]) ⟨hx, hb, hml, hown, hts⟩ (c_liF l D cJ cB cI cF d _) (va_cwS 1 hts (wsG_k tw_332 (wsG_k tw_333 (wsG_k tw_7 (wsG_c tw_334)))) rfl rfl rfl (by decide +kernel) ⟨Nat.le_of_ble_eq_true rfl, Nat.le_of_ble_eq_true rfl⟩) ⟨cf_blind, cf_pre hPc hK hDc hWd⟩ rfl rfl hl.1 rfl (lv_room (Nat.le_of_ble_eq_true rfl)) dLi_read_17 ⟨Nat.le_of_ble_eq_true rfl, Nat.le_of_ble_eq_true rfl⟩) (fun r u H locs hw hP hD hS => ?_)
  obtain ⟨rfl, -⟩ := hw
  have hP : va_P D vwCl [(qf, .inr (1, [.ref qt])), (qb, .inr (0, [.ref qo, .int (nI bc)])), (qo, .inl (cB, 10242, .inl o))] H := hP
  have hD : va_D A [(qf, .inr (1, [.ref qt])), (qb, .inr (0, [.ref qo, .int (nI bc)])), (qo, .inl (cB, 10242, .inl o))] := hD
  refine lv_iload_n hx hb dLi_read_20 rfl (lv_at hl 4 rfl) ?_
  refine lv_iload hx hb dLi_read_21 (lv_at hl 0 rfl) ?_
  refine lv_imul hx hb dLi_read_23 ?_
  refine tp_i (show ((nI i) * (nI (bln (d - 1)))) = (nI (i * (bln (d - 1)))) from pk_mul _ _) ?_
  refine lv_iadd hx hb dLi_read_24 ?_
  refine tp_i (show ((nI (16 + 64 * d)) + (nI (i * (bln (d - 1))))) = (nI ((16 + 64 * d) + (i * (bln (d - 1))))) from nI_add _ _) ?_
  refine lv_iload hx hb dLi_read_25 (lv_at hl 0 rfl) ?_
  refine kc_l (wc := [(qb, .inr (0, [.ref qo, .int (nI bc)])), (qo, .inl (cB, 10242, .inl o))]) (wr := [(qf, .inr (1, [.ref qt]))]) hP hD hS hA [1, 2] [0] rfl rfl (by decide) (by decide) (by decide) (fun hPc hDc => va_runV (As := [.int (nI ((16 + 64 * d) + (i * (bln (d - 1))))), .int (nI (bln (d - 1)))]) (rest := [.ref qb]) ⟨hx, hb, hml, hown, hts⟩ (c_bitsAt l D cJ cB cI cF qb qo bc o B ((16 + 64 * d) + (i * (bln (d - 1)))) (bln (d - 1)) (lN (pl i)) _ (hc) (hbm) (by omega) (by omega) (k4 i hi1) (lN_small (bln_pl hq1) (by omega))) (cwV 2 hts (wsG_k tw_464 (wsG_k tw_465 (wsG_k tw_466 (wsG_k tw_3 (wsG_c tw_467))))) rfl rfl rfl (by decide +kernel) ⟨Nat.le_of_ble_eq_true rfl, Nat.le_of_ble_eq_true rfl⟩) ⟨cf_blind, va_recv hK hPc (ci := 0) (q0 := 0) rfl rfl, cf_pre hPc hK hDc hWd⟩ rfl rfl hl.1 rfl (lv_room (Nat.le_of_ble_eq_true rfl)) dLi_read_27 ⟨Nat.le_of_ble_eq_true rfl, Nat.le_of_ble_eq_true rfl⟩) (fun r u H locs hw hP hD hS => ?_)
  obtain ⟨rfl, -⟩ := hw
  have hP : va_P D vwCl [(qf, .inr (1, [.ref qt])), (qb, .inr (0, [.ref qo, .int (nI bc)])), (qo, .inl (cB, 10242, .inl o))] H := hP
  have hD : va_D A [(qf, .inr (1, [.ref qt])), (qb, .inr (0, [.ref qo, .int (nI bc)])), (qo, .inl (cB, 10242, .inl o))] := hD
  refine lv_l2i hx hb dLi_read_30 rfl ?_
  refine tp_i (show ((lN (pl i)).toInt32) = (nI (pl i)) from lN_i _) ?_
  refine kc_l (wc := [(qb, .inr (0, [.ref qo, .int (nI bc)])), (qo, .inl (cB, 10242, .inl o))]) (wr := [(qf, .inr (1, [.ref qt]))]) hP hD hS hA [1, 2] [0] rfl rfl (by decide) (by decide) (by decide) (fun hPc hDc => va_runS (As := [.ref qb, .int (nI (pl i))]) (rest := []) ⟨hx, hb, hml, hown, hts⟩ (c_liT l D cJ cB cI cF qb qo bc o B (pl i) (rs (pl i)) _ (hc) (hbm) (by omega) (k3 _ hq1)) (va_cwS 2 hts (wsG_k tw_469 (wsG_k tw_470 (wsG_k tw_7 (wsG_c tw_471)))) rfl rfl rfl (by decide +kernel) ⟨Nat.le_of_ble_eq_true rfl, Nat.le_of_ble_eq_true rfl⟩) ⟨cf_blind, cf_pre hPc hK hDc hWd⟩ rfl rfl hl.1 rfl (lv_room (Nat.le_of_ble_eq_true rfl)) dLi_read_31 ⟨Nat.le_of_ble_eq_true rfl, Nat.le_of_ble_eq_true rfl⟩) (fun r u H locs hw hP hD hS => ?_)
  obtain ⟨rfl, -⟩ := hw
  have hP : va_P D vwCl [(qf, .inr (1, [.ref qt])), (qb, .inr (0, [.ref qo, .int (nI bc)])), (qo, .inl (cB, 10242, .inl o))] H := hP
  have hD : va_D A [(qf, .inr (1, [.ref qt])), (qb, .inr (0, [.ref qo, .int (nI bc)])), (qo, .inl (cB, 10242, .inl o))] := hD
  exact hret (rs (pl i)) () _ _ _ _ _ _ ⟨hq.2, trivial⟩ (hP.sub [0, 1, 2] rfl) (hD.sub [0, 1, 2] (by decide) rfl) hS (Nat.le_of_ble_eq_true rfl) (Nat.le_of_ble_eq_true rfl) dLi_read_34

set_option maxHeartbeats 4000000 in
set_option maxRecDepth 100000 in
theorem c_liC (l : Launch) (D : va_G) (cJ cB cI cF : ClassId) (qf : Nat) (qt : Nat) (g : Nat → Int32) (qb : Nat) (qo : Nat) (bc : Nat) (o : Nat → Int32) (B : Nat → Bool) (xs : Nat → Int64) (rs : Nat → Int64) (pl : Nat → Nat) (n : Nat) (d : Nat) (sz : Nat) (hc : oB o bc B) (hbm : bc ≤ 81936) (hn : n ≤ 1024) (hd1 : d ≤ 1024) (hd0 : 0 < d) (k1 : bc = 16 + 64 * d + n * bln (d - 1)) (k4 : ∀ i, i < n → fld B (16 + 64 * d + i * bln (d - 1)) (bln (d - 1)) (lN (pl i))) (hp : ∀ i, i < n → pl i < d) : Met l yLi_countPlaces (Cond.code yLi_countPlaces cLi_countPlaces 8 none :: wsG) ({ frames := 3, cells := 0, slots := 0, locals := 64 }) (va_Pc [.ref qf, .ref qb, .int (nI n), .int (nI d)] (cfPre D (cfT cJ cB cI cF) [(qf, .inr (1, [.ref qt])), (qt, .inl (cI, 1024, .inl g)), (qb, .inr (0, [.ref qo, .int (nI bc)])), (qo, .inl (cB, 10242, .inl o))] sz)) (va_Qv (fun (u : (Nat → Int32)) => (∀ j, j < 1024 → u j = nI (nO pl n j)) ∧ True) (fun u t => cfPost D ((fun (u : (Nat → Int32)) => [(qf, .inr (1, [.ref qt])), (qt, .inl (cI, 1024, .inl u)), (qb, .inr (0, [.ref qo, .int (nI bc)])), (qo, .inl (cB, 10242, .inl o))]) u) (va_A [(qf, .inr (1, [.ref qt])), (qt, .inl (cI, 1024, .inl g)), (qb, .inr (0, [.ref qo, .int (nI bc)])), (qo, .inl (cB, 10242, .inl o))] sz) t) (va_A [(qf, .inr (1, [.ref qt])), (qt, .inl (cI, 1024, .inl g)), (qb, .inr (0, [.ref qo, .int (nI bc)])), (qo, .inl (cB, 10242, .inl o))] sz)) 0 0 (va_A [(qf, .inr (1, [.ref qt])), (qt, .inl (cI, 1024, .inl g)), (qb, .inr (0, [.ref qo, .int (nI bc)])), (qo, .inl (cB, 10242, .inl o))] sz) := by
  refine met_v (cc := cLi_countPlaces) (maxL := 8) (S := (Nat → Int32)) (D := D) (wO := fun (u : (Nat → Int32)) => [(qf, .inr (1, [.ref qt])), (qt, .inl (cI, 1024, .inl u)), (qb, .inr (0, [.ref qo, .int (nI bc)])), (qo, .inl (cB, 10242, .inl o))]) (by decide) (Nat.le_of_ble_eq_true rfl) ?_
  intro p e s m below meth c hx hb hml hown hts hlocks hin hWd A hA hsz hP hK hD hS Q hret ls hl
  have hown : s.vm.findClass "ColumnForms$Listed" = some m.cls := hown
  have hl : lv_has ls 8 [(0, .ref qf), (1, .ref qb), (2, .int (nI n)), (3, .int (nI d))] := hl
  have hP : va_P D vwCl [(qf, .inr (1, [.ref qt])), (qt, .inl (cI, 1024, .inl g)), (qb, .inr (0, [.ref qo, .int (nI bc)])), (qo, .inl (cB, 10242, .inl o))] s.heap := hP
  have hw1 : bln (d - 1) ≤ 10 := bln_d (by omega)
  have hm0 : n * bln (d - 1) ≤ 1024 * 10 := Nat.mul_le_mul hn hw1
  refine lv_aload_n hx hb dLi_countPlaces_0 rfl (lv_at hl 0 rfl) ?_
  refine va_get (D := D) (ci := 1) (v := .ref qt) (C := "ColumnForms$Listed") (T := TLi) (N := 1) hx hb hts inLi hown hK hP 0 rfl rfl 0 (by decide) (hts _ tw_116) (fun _ h9 => h9) rfl dLi_countPlaces_1 ?_
  refine lv_iconst (v := nI 0) hx hb dLi_countPlaces_4 (by decide) ?_
  refine kc_v (wc := [(qt, .inl (cI, 1024, .inl g))]) (wr := [(qf, .inr (1, [.ref qt])), (qb, .inr (0, [.ref qo, .int (nI bc)])), (qo, .inl (cB, 10242, .inl o))]) hP hD hS hA [1] [0, 2, 3] rfl rfl (by decide) (by decide) (by decide) (fun hPc hDc => va_runS (As := [.ref qt, .int (nI 0)]) (rest := []) ⟨hx, hb, hml, hown, hts⟩ (c_fill l D cJ cB cI cF qt g (nI 0) _) (va_cwS 2 hts (wsG_k tw_548 (wsG_k tw_549 (wsG_k tw_21 (wsG_c tw_550)))) rfl rfl rfl (by decide +kernel) ⟨Nat.le_of_ble_eq_true rfl, Nat.le_of_ble_eq_true rfl⟩) ⟨cf_blind, cf_pre hPc hK hDc hWd⟩ rfl rfl hl.1 rfl (lv_room (Nat.le_of_ble_eq_true rfl)) dLi_countPlaces_5 ⟨Nat.le_of_ble_eq_true rfl, Nat.le_of_ble_eq_true rfl⟩) (fun u H locs hw hP hD hS => ?_)
  obtain ⟨f2_1, rfl⟩ : ∃ z, z = u := ⟨u, rfl⟩
  obtain ⟨z1, -⟩ := hw
  have z1 : ∀ j, j < 1024 → f2_1 j = (nI 0) := z1
  have hP : va_P D vwCl [(qf, .inr (1, [.ref qt])), (qb, .inr (0, [.ref qo, .int (nI bc)])), (qo, .inl (cB, 10242, .inl o)), (qt, .inl (cI, 1024, .inl f2_1))] H := hP
  have hD : va_D A [(qf, .inr (1, [.ref qt])), (qb, .inr (0, [.ref qo, .int (nI bc)])), (qo, .inl (cB, 10242, .inl o)), (qt, .inl (cI, 1024, .inl f2_1))] := hD
  refine lv_iload_n hx hb dLi_countPlaces_8 rfl (lv_at hl 3 rfl) ?_
  refine lv_iconst (v := nI 1) hx hb dLi_countPlaces_9 (by decide) ?_
  refine lv_isub hx hb dLi_countPlaces_10 ?_
  refine tp_i (show ((nI d) - (nI 1)) = (nI (d - 1)) from pk_sub (by omega)) ?_
  refine lv_i2l hx hb dLi_countPlaces_11 rfl ?_
  refine tp_l (show ((nI (d - 1)).toInt64) = (lN (d - 1)) from nI_l (by omega)) ?_
  refine kc_i (wc := []) (wr := [(qf, .inr (1, [.ref qt])), (qb, .inr (0, [.ref qo, .int (nI bc)])), (qo, .inl (cB, 10242, .inl o)), (qt, .inl (cI, 1024, .inl f2_1))]) hP hD hS hA [] [0, 1, 2, 3] rfl rfl (by decide) (by decide) (by decide) (fun hPc hDc => va_runSN (As := [.long (lN (d - 1))]) (rest := []) ⟨hx, hb, hml, hown, hts⟩ (c_bits l D cJ cB cI cF (lN (d - 1)) _) (⟨va_cnB 1 hts (wsG_c tw_337) rfl rfl rfl (hWd.nest 13 rfl) (hts _ tw_1) (by decide +kernel) ⟨Nat.le_of_ble_eq_true rfl, Nat.le_of_ble_eq_true rfl⟩, hts _ tw_336, trivial⟩) ⟨cf_blind, cf_pre hPc hK hDc hWd⟩ rfl rfl hl.1 rfl (lv_room (Nat.le_of_ble_eq_true rfl)) dLi_countPlaces_12 ⟨Nat.le_of_ble_eq_true rfl, Nat.le_of_ble_eq_true rfl⟩) (fun r u H locs hw hP hD hS => ?_)
  obtain ⟨rfl, -⟩ := hw
  have hP : va_P D vwCl [(qf, .inr (1, [.ref qt])), (qb, .inr (0, [.ref qo, .int (nI bc)])), (qo, .inl (cB, 10242, .inl o)), (qt, .inl (cI, 1024, .inl f2_1))] H := hP
  have hD : va_D A [(qf, .inr (1, [.ref qt])), (qb, .inr (0, [.ref qo, .int (nI bc)])), (qo, .inl (cB, 10242, .inl o)), (qt, .inl (cI, 1024, .inl f2_1))] := hD
  refine tp_i (show (nI (bln (uN (lN (d - 1))))) = (nI (bln (d - 1))) from congrArg (fun z => nI (bln z)) (uN_lN (by omega))) ?_
  refine lv_istore (lv' := [(4, .int (nI (bln (d - 1)))), (0, .ref qf), (1, .ref qb), (2, .int (nI n)), (3, .int (nI d))]) hx hb dLi_countPlaces_15 hl (by decide) rfl (fun ls hl => ?_)
  refine lv_iload_n hx hb dLi_countPlaces_17 rfl (lv_at hl 4 rfl) ?_
  refine kc_i (wc := []) (wr := [(qf, .inr (1, [.ref qt])), (qb, .inr (0, [.ref qo, .int (nI bc)])), (qo, .inl (cB, 10242, .inl o)), (qt, .inl (cI, 1024, .inl f2_1))]) hP hD hS hA [] [0, 1, 2, 3] rfl rfl (by decide) (by decide) (by decide) (fun hPc hDc => va_runS (As := [.int (nI d)]) (rest := []) ⟨hx, hb, hml, hown, hts⟩ (c_liF l D cJ cB cI cF d _) (va_cwS 1 hts (wsG_k tw_332 (wsG_k tw_333 (wsG_k tw_7 (wsG_c tw_334)))) rfl rfl rfl (by decide +kernel) ⟨Nat.le_of_ble_eq_true rfl, Nat.le_of_ble_eq_true rfl⟩) ⟨cf_blind, cf_pre hPc hK hDc hWd⟩ rfl rfl hl.1 rfl (lv_room (Nat.le_of_ble_eq_true rfl)) dLi_countPlaces_18 ⟨Nat.le_of_ble_eq_true rfl, Nat.le_of_ble_eq_true rfl⟩) (fun r u H locs hw hP hD hS => ?_)
  obtain ⟨rfl, -⟩ := hw
  have hP : va_P D vwCl [(qf, .inr (1, [.ref qt])), (qb, .inr (0, [.ref qo, .int (nI bc)])), (qo, .inl (cB, 10242, .inl o)), (qt, .inl (cI, 1024, .inl f2_1))] H := hP
  have hD : va_D A [(qf, .inr (1, [.ref qt])), (qb, .inr (0, [.ref qo, .int (nI bc)])), (qo, .inl (cB, 10242, .inl o)), (qt, .inl (cI, 1024, .inl f2_1))] := hD
  refine lv_istore (lv' := [(5, .int (nI (16 + 64 * d))), (4, .int (nI (bln (d - 1)))), (0, .ref qf), (1, .ref qb), (2, .int (nI n)), (3, .int (nI d))]) hx hb dLi_countPlaces_21 hl (by decide) rfl (fun ls hl => ?_)
  refine lv_iconst (v := nI 0) hx hb dLi_countPlaces_23 (by decide) ?_
  refine lv_istore (lv' := [(6, .int (nI 0)), (5, .int (nI (16 + 64 * d))), (4, .int (nI (bln (d - 1)))), (0, .ref qf), (1, .ref qb), (2, .int (nI n)), (3, .int (nI d))]) hx hb dLi_countPlaces_24 hl (by decide) rfl (fun ls hl => ?_)
  have lp : ∀ (k_lp : Nat) (i : Nat) (g1 : Nat → Int32), (i ≤ n) → (∀ j, j < 1024 → g1 j = nI (nO pl i j)) → (n - i < k_lp) → ∀ (H : Heap) (locs : List Loc) (ls : Array Slot), va_P D vwCl [(qf, .inr (1, [.ref qt])), (qt, .inl (cI, 1024, .inl g1)), (qb, .inr (0, [.ref qo, .int (nI bc)])), (qo, .inl (cB, 10242, .inl o))] H → va_D A [(qf, .inr (1, [.ref qt])), (qt, .inl (cI, 1024, .inl g1)), (qb, .inr (0, [.ref qo, .int (nI bc)])), (qo, .inl (cB, 10242, .inl o))] → va_S A s.heap H locs → lv_has ls 8 [(0, .ref qf), (1, .ref qb), (2, .int (nI n)), (3, .int (nI d)), (4, .int (nI (bln (d - 1)))), (5, .int (nI (16 + 64 * d))), (6, .int (nI i))] → W p l e ({ frames := 3, cells := 0, slots := 0, locals := 64 }) s m ([.ref qf, .ref qb, .int (nI n), .int (nI d)].toArray) below meth c H locs (0) (0) Q (F0 m 26 ls []) := by
    intro k_lp
    induction k_lp with
    | zero => intro i g1 j1 j2 hfu; exact absurd hfu (by omega)
    | succ k_lp ih_lp =>
      intro i g1 j1 j2 hfu H locs ls hP hD hS hl
      refine lv_iload hx hb dLi_countPlaces_26 (lv_at hl 6 rfl) ?_
      refine lv_iload_n hx hb dLi_countPlaces_28 rfl (lv_at hl 2 rfl) ?_
      refine lv_icmp_ge (tgt := 81) hx hb dLi_countPlaces_29 (by decide) (fun c29 => ?_) (fun c29 => ?_)
      · have c29 : n ≤ i := (nI_leI (by omega) (by omega)).mp c29
        exact hret (g1) _ _ _ _ _ _ ⟨fun j hj => by rw [show n = i by omega]; exact j2 j hj, trivial⟩ (hP.sub [0, 1, 2, 3] rfl) (hD.sub [0, 1, 2, 3] (by decide) rfl) hS (Nat.le_of_ble_eq_true rfl) (Nat.le_of_ble_eq_true rfl) dLi_countPlaces_81
      · have c29 : ¬ n ≤ i := fun h => c29 ((nI_leI (by omega) (by omega)).mpr h)
        have hil : i < n := by omega
        have hm := mul_lo (w := bln (d - 1)) hil
        have hq1 := hp i hil
        refine lv_aload_n hx hb dLi_countPlaces_32 rfl (lv_at hl 1 rfl) ?_
        refine lv_iload hx hb dLi_countPlaces_33 (lv_at hl 5 rfl) ?_
        refine lv_iload hx hb dLi_countPlaces_35 (lv_at hl 6 rfl) ?_
        refine lv_iload hx hb dLi_countPlaces_37 (lv_at hl 4 rfl) ?_
        refine lv_imul hx hb dLi_countPlaces_39 ?_
        refine tp_i (show ((nI i) * (nI (bln (d - 1)))) = (nI (i * (bln (d - 1)))) from pk_mul _ _) ?_
        refine lv_iadd hx hb dLi_countPlaces_40 ?_
        refine tp_i (show ((nI (16 + 64 * d)) + (nI (i * (bln (d - 1))))) = (nI ((16 + 64 * d) + (i * (bln (d - 1))))) from nI_add _ _) ?_
        refine lv_iload hx hb dLi_countPlaces_41 (lv_at hl 4 rfl) ?_
        refine kc_l (wc := [(qb, .inr (0, [.ref qo, .int (nI bc)])), (qo, .inl (cB, 10242, .inl o))]) (wr := [(qf, .inr (1, [.ref qt])), (qt, .inl (cI, 1024, .inl g1))]) hP hD hS hA [2, 3] [0, 1] rfl rfl (by decide) (by decide) (by decide) (fun hPc hDc => va_runV (As := [.int (nI ((16 + 64 * d) + (i * (bln (d - 1))))), .int (nI (bln (d - 1)))]) (rest := []) ⟨hx, hb, hml, hown, hts⟩ (c_bitsAt l D cJ cB cI cF qb qo bc o B ((16 + 64 * d) + (i * (bln (d - 1)))) (bln (d - 1)) (lN (pl i)) _ (hc) (hbm) (by omega) (by omega) (k4 i hil) (lN_small (bln_pl hq1) (by omega))) (cwV 2 hts (wsG_k tw_464 (wsG_k tw_465 (wsG_k tw_466 (wsG_k tw_3 (wsG_c tw_467))))) rfl rfl rfl (by decide +kernel) ⟨Nat.le_of_ble_eq_true rfl, Nat.le_of_ble_eq_true rfl⟩) ⟨cf_blind, va_recv hK hPc (ci := 0) (q0 := 0) rfl rfl, cf_pre hPc hK hDc hWd⟩ rfl rfl hl.1 rfl (lv_room (Nat.le_of_ble_eq_true rfl)) dLi_countPlaces_43 ⟨Nat.le_of_ble_eq_true rfl, Nat.le_of_ble_eq_true rfl⟩) (fun r u H locs hw hP hD hS => ?_)
        obtain ⟨rfl, -⟩ := hw
        have hP : va_P D vwCl [(qf, .inr (1, [.ref qt])), (qt, .inl (cI, 1024, .inl g1)), (qb, .inr (0, [.ref qo, .int (nI bc)])), (qo, .inl (cB, 10242, .inl o))] H := hP
        have hD : va_D A [(qf, .inr (1, [.ref qt])), (qt, .inl (cI, 1024, .inl g1)), (qb, .inr (0, [.ref qo, .int (nI bc)])), (qo, .inl (cB, 10242, .inl o))] := hD
        refine lv_l2i hx hb dLi_countPlaces_46 rfl ?_
        refine tp_i (show ((lN (pl i)).toInt32) = (nI (pl i)) from lN_i _) ?_
        refine lv_istore (lv' := [(7, .int (nI (pl i))), (0, .ref qf), (1, .ref qb), (2, .int (nI n)), (3, .int (nI d)), (4, .int (nI (bln (d - 1)))), (5, .int (nI (16 + 64 * d))), (6, .int (nI i))]) hx hb dLi_countPlaces_47 hl (by decide) rfl (fun ls hl => ?_)
        refine lv_iload hx hb dLi_countPlaces_49 (lv_at hl 0 rfl) ?_
        refine lv_if_lt (tgt := 75) hx hb dLi_countPlaces_51 (by decide) (fun c51 => ?_) (fun c51 => ?_)
        · have c51 : (pl i) < 0 := (nI_ltI (b := 0) (by omega) (by omega)).mp c51
          exact absurd c51 (by omega)
        · have c51 : ¬ (pl i) < 0 := fun h => c51 ((nI_ltI (b := 0) (by omega) (by omega)).mpr h)
          refine lv_iload hx hb dLi_countPlaces_54 (lv_at hl 0 rfl) ?_
          refine lv_aload_n hx hb dLi_countPlaces_56 rfl (lv_at hl 1 rfl) ?_
          refine va_get (D := D) (ci := 1) (v := .ref qt) (C := "ColumnForms$Listed") (T := TLi) (N := 1) hx hb hts inLi hown hK hP 0 rfl rfl 0 (by decide) (hts _ tw_116) (fun _ h9 => h9) rfl dLi_countPlaces_57 ?_
          refine va_alen hx hb hK hP 1 2 rfl rfl (v := nI 1024) rfl dLi_countPlaces_60 ?_
          refine lv_icmp_ge (tgt := 75) hx hb dLi_countPlaces_61 (by decide) (fun c61 => ?_) (fun c61 => ?_)
          · have c61 : 1024 ≤ (pl i) := (nI_leI (by omega) (by omega)).mp c61
            exact absurd c61 (by omega)
          · have c61 : ¬ 1024 ≤ (pl i) := fun h => c61 ((nI_leI (by omega) (by omega)).mpr h)
            refine lv_aload_n hx hb dLi_countPlaces_64 rfl (lv_at hl 1 rfl) ?_
            refine va_get (D := D) (ci := 1) (v := .ref qt) (C := "ColumnForms$Listed") (T := TLi) (N := 1) hx hb hts inLi hown hK hP 0 rfl rfl 0 (by decide) (hts _ tw_116) (fun _ h9 => h9) rfl dLi_countPlaces_65 ?_
            refine lv_iload hx hb dLi_countPlaces_68 (lv_at hl 0 rfl) ?_
            refine lv_dup2_11 hx hb dLi_countPlaces_70 rfl rfl ?_
            refine va_iald hx hb hK hP 1 2 rfl rfl (vp_in_nI (by omega) (by omega)) dLi_countPlaces_71 ?_
            refine tp_i (show (g1 (nI (pl i)).toNatClampNeg) = (g1 (pl i)) from congrArg _ (nI_clamp (by omega))) ?_
            refine lv_iconst (v := nI 1) hx hb dLi_countPlaces_72 (by decide) ?_
            refine lv_iadd hx hb dLi_countPlaces_73 ?_
            refine va_iast hx hb hK hP hD hS 1 2 rfl rfl (vp_in_nI (by omega) (by omega)) dLi_countPlaces_74 (fun H locs hP hD hS => ?_)
            rw [nI_clamp (by omega)] at hP hD
            have hP : va_P D vwCl [(qf, .inr (1, [.ref qt])), (qt, .inl (cI, 1024, .inl (upd g1 (pl i) ((g1 (pl i)) + (nI 1))))), (qb, .inr (0, [.ref qo, .int (nI bc)])), (qo, .inl (cB, 10242, .inl o))] H := hP
            have hD : va_D A [(qf, .inr (1, [.ref qt])), (qt, .inl (cI, 1024, .inl (upd g1 (pl i) ((g1 (pl i)) + (nI 1))))), (qb, .inr (0, [.ref qo, .int (nI bc)])), (qo, .inl (cB, 10242, .inl o))] := hD
            refine lv_iinc (v := nI (i + 1)) (lv' := [(6, .int (nI (i + 1))), (7, .int (nI (pl i))), (0, .ref qf), (1, .ref qb), (2, .int (nI n)), (3, .int (nI d)), (4, .int (nI (bln (d - 1)))), (5, .int (nI (16 + 64 * d)))]) hx hb dLi_countPlaces_75 hl (k := 7) rfl (by rw [show (Int32.ofInt 1) = nI 1 from by decide]; exact nI_add _ _) (by decide) rfl (fun ls hl => ?_)
            refine lv_goto (tgt := 26) hx hb dLi_countPlaces_78 (by decide) ?_
            exact ih_lp (i + 1) (upd g1 (pl i) ((g1 (pl i)) + (nI 1))) (by omega) (nO_step j2 (by omega)) (by omega) _ _ _ (hP.sub [0, 1, 2, 3] rfl) (hD.sub [0, 1, 2, 3] (by decide) rfl) hS (lv_sub hl [2, 3, 4, 5, 6, 7, 0] rfl)
  exact lp (n - 0 + 1) 0 f2_1 (Nat.zero_le n) (nO_0 z1) (by omega) _ _ _ (hP.sub [0, 3, 1, 2] rfl) (hD.sub [0, 3, 1, 2] (by decide) rfl) hS (lv_sub hl [3, 4, 5, 6, 2, 1, 0] rfl)

set_option maxHeartbeats 4000000 in
set_option maxRecDepth 100000 in
theorem c_liA (l : Launch) (D : va_G) (cJ cB cI cF : ClassId) (qf : Nat) (qt : Nat) (g : Nat → Int32) (qb : Nat) (qo : Nat) (bc : Nat) (o : Nat → Int32) (B : Nat → Bool) (xs : Nat → Int64) (n : Nat) (qq : Nat) (ht_ : Int32) (tt : Int64) (kd : Nat) (low : Int64) (high : Int64) (sz : Nat) (hc : oB o bc B) (hbm : bc ≤ 81936) (hn : n ≤ 1024) (hn0 : 0 < n) (hL : lL xs n bc B) (hk : kd < 5) : Met l yLi_askAll (Cond.code yLi_askAll cLi_askAll 6 none :: wsG) ({ frames := 4, cells := 0, slots := 0, locals := 91 }) (va_Pc [.ref qf, .ref qb, .int (nI n), .ref qq] (cfPre D (cfT cJ cB cI cF) [(qf, .inr (1, [.ref qt])), (qt, .inl (cI, 1024, .inl g)), (qb, .inr (0, [.ref qo, .int (nI bc)])), (qo, .inl (cB, 10242, .inl o)), (qq, .inr (4, [.int ht_, .long tt, .int (nI kd), .long low, .long high]))] sz)) (va_Qv (fun (u : Int32 × Int64 × (Nat → Int32)) => (u.1 = ht_ + nI (nC (qF kd low high) xs n)) ∧ (u.2.1 = tt + nS (qF kd low high) xs n) ∧ True) (fun u t => cfPost D ((fun (u : Int32 × Int64 × (Nat → Int32)) => [(qf, .inr (1, [.ref qt])), (qt, .inl (cI, 1024, .inl u.2.2)), (qb, .inr (0, [.ref qo, .int (nI bc)])), (qo, .inl (cB, 10242, .inl o)), (qq, .inr (4, [.int u.1, .long u.2.1, .int (nI kd), .long low, .long high]))]) u) (va_A [(qf, .inr (1, [.ref qt])), (qt, .inl (cI, 1024, .inl g)), (qb, .inr (0, [.ref qo, .int (nI bc)])), (qo, .inl (cB, 10242, .inl o)), (qq, .inr (4, [.int ht_, .long tt, .int (nI kd), .long low, .long high]))] sz) t) (va_A [(qf, .inr (1, [.ref qt])), (qt, .inl (cI, 1024, .inl g)), (qb, .inr (0, [.ref qo, .int (nI bc)])), (qo, .inl (cB, 10242, .inl o)), (qq, .inr (4, [.int ht_, .long tt, .int (nI kd), .long low, .long high]))] sz)) 0 0 (va_A [(qf, .inr (1, [.ref qt])), (qt, .inl (cI, 1024, .inl g)), (qb, .inr (0, [.ref qo, .int (nI bc)])), (qo, .inl (cB, 10242, .inl o)), (qq, .inr (4, [.int ht_, .long tt, .int (nI kd), .long low, .long high]))] sz) := by
  refine met_v (cc := cLi_askAll) (maxL := 6) (S := Int32 × Int64 × (Nat → Int32)) (D := D) (wO := fun (u : Int32 × Int64 × (Nat → Int32)) => [(qf, .inr (1, [.ref qt])), (qt, .inl (cI, 1024, .inl u.2.2)), (qb, .inr (0, [.ref qo, .int (nI bc)])), (qo, .inl (cB, 10242, .inl o)), (qq, .inr (4, [.int u.1, .long u.2.1, .int (nI kd), .long low, .long high]))]) (by decide) (Nat.le_of_ble_eq_true rfl) ?_
  intro p e s m below meth c hx hb hml hown hts hlocks hin hWd A hA hsz hP hK hD hS Q hret ls hl
  have hown : s.vm.findClass "ColumnForms$Listed" = some m.cls := hown
  have hl : lv_has ls 6 [(0, .ref qf), (1, .ref qb), (2, .int (nI n)), (3, .ref qq)] := hl
  have hP : va_P D vwCl [(qf, .inr (1, [.ref qt])), (qt, .inl (cI, 1024, .inl g)), (qb, .inr (0, [.ref qo, .int (nI bc)])), (qo, .inl (cB, 10242, .inl o)), (qq, .inr (4, [.int ht_, .long tt, .int (nI kd), .long low, .long high]))] s.heap := hP
  obtain ⟨rs, d, pl, hI, hp, k1, k2, k3, k4⟩ := hL
  have hd1 := hI.2.1
  have hd0 := hI.2.2.2.2 (by omega)
  have hw1 : bln (d - 1) ≤ 10 := bln_d (by omega)
  have hm0 : n * bln (d - 1) ≤ 1024 * 10 := Nat.mul_le_mul hn hw1
  have hpd : ∀ i, i < n → pl i < d ∧ rs (pl i) = xs i := fun i hi => rPl_lt hI hi (hp i hi)
  refine lv_aload_n hx hb dLi_askAll_0 rfl (lv_at hl 1 rfl) ?_
  refine kc_i (wc := [(qb, .inr (0, [.ref qo, .int (nI bc)])), (qo, .inl (cB, 10242, .inl o))]) (wr := [(qf, .inr (1, [.ref qt])), (qt, .inl (cI, 1024, .inl g)), (qq, .inr (4, [.int ht_, .long tt, .int (nI kd), .long low, .long high]))]) hP hD hS hA [2, 3] [0, 1, 4] rfl rfl (by decide) (by decide) (by decide) (fun hPc hDc => va_runS (As := [.ref qb]) (rest := []) ⟨hx, hb, hml, hown, hts⟩ (c_liD l D cJ cB cI cF qb qo bc o B d _ (hc) (hbm) (by omega) (k2) (by omega)) (va_cwS 1 hts (wsG_k tw_461 (wsG_k tw_462 (wsG_k tw_7 (wsG_c tw_463)))) rfl rfl rfl (by decide +kernel) ⟨Nat.le_of_ble_eq_true rfl, Nat.le_of_ble_eq_true rfl⟩) ⟨cf_blind, cf_pre hPc hK hDc hWd⟩ rfl rfl hl.1 rfl (lv_room (Nat.le_of_ble_eq_true rfl)) dLi_askAll_1 ⟨Nat.le_of_ble_eq_true rfl, Nat.le_of_ble_eq_true rfl⟩) (fun r u H locs hw hP hD hS => ?_)
  obtain ⟨rfl, -⟩ := hw
  have hP : va_P D vwCl [(qf, .inr (1, [.ref qt])), (qt, .inl (cI, 1024, .inl g)), (qq, .inr (4, [.int ht_, .long tt, .int (nI kd), .long low, .long high])), (qb, .inr (0, [.ref qo, .int (nI bc)])), (qo, .inl (cB, 10242, .inl o))] H := hP
  have hD : va_D A [(qf, .inr (1, [.ref qt])), (qt, .inl (cI, 1024, .inl g)), (qq, .inr (4, [.int ht_, .long tt, .int (nI kd), .long low, .long high])), (qb, .inr (0, [.ref qo, .int (nI bc)])), (qo, .inl (cB, 10242, .inl o))] := hD
  refine lv_aload_n hx hb dLi_askAll_4 rfl (lv_at hl 0 rfl) ?_
  refine va_get (D := D) (ci := 1) (v := .ref qt) (C := "ColumnForms$Listed") (T := TLi) (N := 1) hx hb hts inLi hown hK hP 0 rfl rfl 0 (by decide) (hts _ tw_116) (fun _ h9 => h9) rfl dLi_askAll_5 ?_
  refine va_alen hx hb hK hP 1 2 rfl rfl (v := nI 1024) rfl dLi_askAll_8 ?_
  refine va_mmin hx hb (hml.trans hl.1.symm) hown (hts _ tw_543) (hts _ tw_399) (hts _ tw_15) (hts _ tw_400) (Nat.le_of_ble_eq_true rfl) (Nat.le_of_ble_eq_true rfl) (Nat.le_of_ble_eq_true rfl) (Nat.le_of_ble_eq_true rfl) dLi_askAll_9 ?_
  refine tp_i (show (if (nI 1024) < (nI d) then (nI 1024) else (nI d)) = (nI d) from by rw [nI_mn (by omega) (by omega)]; exact congrArg nI (by omega)) ?_
  refine lv_istore (lv' := [(4, .int (nI d)), (0, .ref qf), (1, .ref qb), (2, .int (nI n)), (3, .ref qq)]) hx hb dLi_askAll_12 hl (by decide) rfl (fun ls hl => ?_)
  refine lv_aload_n hx hb dLi_askAll_14 rfl (lv_at hl 1 rfl) ?_
  refine lv_aload_n hx hb dLi_askAll_15 rfl (lv_at hl 2 rfl) ?_
  refine lv_iload_n hx hb dLi_askAll_16 rfl (lv_at hl 3 rfl) ?_
  refine lv_iload hx hb dLi_askAll_17 (lv_at hl 0 rfl) ?_
  refine kc_v (wc := [(qf, .inr (1, [.ref qt])), (qt, .inl (cI, 1024, .inl g)), (qb, .inr (0, [.ref qo, .int (nI bc)])), (qo, .inl (cB, 10242, .inl o))]) (wr := [(qq, .inr (4, [.int ht_, .long tt, .int (nI kd), .long low, .long high]))]) hP hD hS hA [0, 1, 3, 4] [2] rfl rfl (by decide) (by decide) (by decide) (fun hPc hDc => va_runV (As := [.ref qb, .int (nI n), .int (nI d)]) (rest := []) ⟨hx, hb, hml, hown, hts⟩ (c_liC l D cJ cB cI cF qf qt g qb qo bc o B xs rs pl n d _ (hc) (hbm) (hn) (by omega) (hd0) (k1) (k4) (fun i hi => (hpd i hi).1)) (cwV 3 hts (wsG_k tw_544 (wsG_k tw_546 (wsG_k tp_w9 (wsG_k tw_7 (wsG_c tw_547))))) rfl rfl rfl (by decide +kernel) ⟨Nat.le_of_ble_eq_true rfl, Nat.le_of_ble_eq_true rfl⟩) ⟨cf_blind, va_recv hK hPc (ci := 1) (q0 := 0) rfl rfl, cf_pre hPc hK hDc hWd⟩ rfl rfl hl.1 rfl (lv_room (Nat.le_of_ble_eq_true rfl)) dLi_askAll_19 ⟨Nat.le_of_ble_eq_true rfl, Nat.le_of_ble_eq_true rfl⟩) (fun u H locs hw hP hD hS => ?_)
  obtain ⟨g2, rfl⟩ : ∃ z, z = u := ⟨u, rfl⟩
  obtain ⟨hg, -⟩ := hw
  have hg : ∀ j, j < 1024 → g2 j = nI (nO pl n j) := hg
  have hP : va_P D vwCl [(qq, .inr (4, [.int ht_, .long tt, .int (nI kd), .long low, .long high])), (qf, .inr (1, [.ref qt])), (qt, .inl (cI, 1024, .inl g2)), (qb, .inr (0, [.ref qo, .int (nI bc)])), (qo, .inl (cB, 10242, .inl o))] H := hP
  have hD : va_D A [(qq, .inr (4, [.int ht_, .long tt, .int (nI kd), .long low, .long high])), (qf, .inr (1, [.ref qt])), (qt, .inl (cI, 1024, .inl g2)), (qb, .inr (0, [.ref qo, .int (nI bc)])), (qo, .inl (cB, 10242, .inl o))] := hD
  refine lv_iconst (v := nI 0) hx hb dLi_askAll_22 (by decide) ?_
  refine lv_istore (lv' := [(5, .int (nI 0)), (4, .int (nI d)), (0, .ref qf), (1, .ref qb), (2, .int (nI n)), (3, .ref qq)]) hx hb dLi_askAll_23 hl (by decide) rfl (fun ls hl => ?_)
  have lp : ∀ (k_lp : Nat) (k : Nat) (h1 : Int32) (t1 : Int64), (k ≤ d) → (h1 = ht_ + nI (lCn (qF kd low high) rs pl n k)) → (t1 = tt + lSm (qF kd low high) rs pl n k) → (d - k < k_lp) → ∀ (H : Heap) (locs : List Loc) (ls : Array Slot), va_P D vwCl [(qf, .inr (1, [.ref qt])), (qt, .inl (cI, 1024, .inl g2)), (qb, .inr (0, [.ref qo, .int (nI bc)])), (qo, .inl (cB, 10242, .inl o)), (qq, .inr (4, [.int h1, .long t1, .int (nI kd), .long low, .long high]))] H → va_D A [(qf, .inr (1, [.ref qt])), (qt, .inl (cI, 1024, .inl g2)), (qb, .inr (0, [.ref qo, .int (nI bc)])), (qo, .inl (cB, 10242, .inl o)), (qq, .inr (4, [.int h1, .long t1, .int (nI kd), .long low, .long high]))] → va_S A s.heap H locs → lv_has ls 6 [(0, .ref qf), (1, .ref qb), (2, .int (nI n)), (3, .ref qq), (4, .int (nI d)), (5, .int (nI k))] → W p l e ({ frames := 4, cells := 0, slots := 0, locals := 91 }) s m ([.ref qf, .ref qb, .int (nI n), .ref qq].toArray) below meth c H locs (0) (0) Q (F0 m 25 ls []) := by
    intro k_lp
    induction k_lp with
    | zero => intro k h1 t1 g1 j2 j3 hfu; exact absurd hfu (by omega)
    | succ k_lp ih_lp =>
      intro k h1 t1 g1 j2 j3 hfu H locs ls hP hD hS hl
      refine lv_iload hx hb dLi_askAll_25 (lv_at hl 5 rfl) ?_
      refine lv_iload hx hb dLi_askAll_27 (lv_at hl 4 rfl) ?_
      refine lv_icmp_ge (tgt := 55) hx hb dLi_askAll_29 (by decide) (fun c29 => ?_) (fun c29 => ?_)
      · have c29 : d ≤ k := (nI_leI (by omega) (by omega)).mp c29
        exact hret (h1, t1, g2) _ _ _ _ _ _ ⟨by show h1 = _; rw [j2, show k = d by omega]; exact congrArg (fun z => ht_ + nI z) (nC_list n hpd), by show t1 = _; rw [j3, show k = d by omega]; exact congrArg (fun z => tt + z) (nS_list n hpd), trivial⟩ (hP.sub [0, 1, 2, 3, 4] rfl) (hD.sub [0, 1, 2, 3, 4] (by decide) rfl) hS (Nat.le_of_ble_eq_true rfl) (Nat.le_of_ble_eq_true rfl) dLi_askAll_55
      · have c29 : ¬ d ≤ k := fun h => c29 ((nI_leI (by omega) (by omega)).mpr h)
        refine lv_aload_n hx hb dLi_askAll_32 rfl (lv_at hl 3 rfl) ?_
        refine lv_aload_n hx hb dLi_askAll_33 rfl (lv_at hl 1 rfl) ?_
        refine lv_iload hx hb dLi_askAll_34 (lv_at hl 5 rfl) ?_
        refine kc_l (wc := [(qb, .inr (0, [.ref qo, .int (nI bc)])), (qo, .inl (cB, 10242, .inl o))]) (wr := [(qf, .inr (1, [.ref qt])), (qt, .inl (cI, 1024, .inl g2)), (qq, .inr (4, [.int h1, .long t1, .int (nI kd), .long low, .long high]))]) hP hD hS hA [2, 3] [0, 1, 4] rfl rfl (by decide) (by decide) (by decide) (fun hPc hDc => va_runS (As := [.ref qb, .int (nI k)]) (rest := [.ref qq]) ⟨hx, hb, hml, hown, hts⟩ (c_liT l D cJ cB cI cF qb qo bc o B k (rs k) _ (hc) (hbm) (by omega) (k3 k (by omega))) (va_cwS 2 hts (wsG_k tw_469 (wsG_k tw_470 (wsG_k tw_7 (wsG_c tw_471)))) rfl rfl rfl (by decide +kernel) ⟨Nat.le_of_ble_eq_true rfl, Nat.le_of_ble_eq_true rfl⟩) ⟨cf_blind, cf_pre hPc hK hDc hWd⟩ rfl rfl hl.1 rfl (lv_room (Nat.le_of_ble_eq_true rfl)) dLi_askAll_36 ⟨Nat.le_of_ble_eq_true rfl, Nat.le_of_ble_eq_true rfl⟩) (fun r u H locs hw hP hD hS => ?_)
        obtain ⟨rfl, -⟩ := hw
        have hP : va_P D vwCl [(qf, .inr (1, [.ref qt])), (qt, .inl (cI, 1024, .inl g2)), (qq, .inr (4, [.int h1, .long t1, .int (nI kd), .long low, .long high])), (qb, .inr (0, [.ref qo, .int (nI bc)])), (qo, .inl (cB, 10242, .inl o))] H := hP
        have hD : va_D A [(qf, .inr (1, [.ref qt])), (qt, .inl (cI, 1024, .inl g2)), (qq, .inr (4, [.int h1, .long t1, .int (nI kd), .long low, .long high])), (qb, .inr (0, [.ref qo, .int (nI bc)])), (qo, .inl (cB, 10242, .inl o))] := hD
        refine lv_aload_n hx hb dLi_askAll_39 rfl (lv_at hl 0 rfl) ?_
        refine va_get (D := D) (ci := 1) (v := .ref qt) (C := "ColumnForms$Listed") (T := TLi) (N := 1) hx hb hts inLi hown hK hP 0 rfl rfl 0 (by decide) (hts _ tw_116) (fun _ h9 => h9) rfl dLi_askAll_40 ?_
        refine lv_iload hx hb dLi_askAll_43 (lv_at hl 5 rfl) ?_
        refine va_iald hx hb hK hP 1 2 rfl rfl (vp_in_nI (by omega) (by omega)) dLi_askAll_45 ?_
        refine tp_i (show (g2 (nI k).toNatClampNeg) = (g2 k) from congrArg _ (nI_clamp (by omega))) ?_
        refine tp_i (show (g2 k) = (nI (nO pl n k)) from hg k (by omega)) ?_
        refine kc_v (wc := [(qq, .inr (4, [.int h1, .long t1, .int (nI kd), .long low, .long high]))]) (wr := [(qf, .inr (1, [.ref qt])), (qt, .inl (cI, 1024, .inl g2)), (qb, .inr (0, [.ref qo, .int (nI bc)])), (qo, .inl (cB, 10242, .inl o))]) hP hD hS hA [2] [0, 1, 3, 4] rfl rfl (by decide) (by decide) (by decide) (fun hPc hDc => va_runV (As := [.long (rs k), .int (nI (nO pl n k))]) (rest := []) ⟨hx, hb, hml, hown, hts⟩ (c_ask l D cJ cB cI cF qq h1 t1 kd low high (rs k) (nI (nO pl n k)) _ (hk)) (cwV 2 hts (wsG_k tw_551 (wsG_k tw_552 (wsG_k tw_553 (wsG_k tw_20 (wsG_c tw_554))))) rfl rfl rfl (by decide +kernel) ⟨Nat.le_of_ble_eq_true rfl, Nat.le_of_ble_eq_true rfl⟩) ⟨cf_blind, va_recv hK hPc (ci := 4) (q0 := 0) rfl rfl, cf_pre hPc hK hDc hWd⟩ rfl rfl hl.1 rfl (lv_room (Nat.le_of_ble_eq_true rfl)) dLi_askAll_46 ⟨Nat.le_of_ble_eq_true rfl, Nat.le_of_ble_eq_true rfl⟩) (fun u H locs hw hP hD hS => ?_)
        obtain ⟨h2_1, t2_2⟩ := u
        obtain ⟨a1, a2, -⟩ := hw
        have a1 : h2_1 = h1 + (if qF kd low high (rs k) then (nI (nO pl n k)) else 0) := a1
        have a2 : t2_2 = t1 + (if qF kd low high (rs k) then (rs k) * (nI (nO pl n k)).toInt64 else 0) := a2
        have hP : va_P D vwCl [(qf, .inr (1, [.ref qt])), (qt, .inl (cI, 1024, .inl g2)), (qb, .inr (0, [.ref qo, .int (nI bc)])), (qo, .inl (cB, 10242, .inl o)), (qq, .inr (4, [.int h2_1, .long t2_2, .int (nI kd), .long low, .long high]))] H := hP
        have hD : va_D A [(qf, .inr (1, [.ref qt])), (qt, .inl (cI, 1024, .inl g2)), (qb, .inr (0, [.ref qo, .int (nI bc)])), (qo, .inl (cB, 10242, .inl o)), (qq, .inr (4, [.int h2_1, .long t2_2, .int (nI kd), .long low, .long high]))] := hD
        refine lv_iinc (v := nI (k + 1)) (lv' := [(5, .int (nI (k + 1))), (0, .ref qf), (1, .ref qb), (2, .int (nI n)), (3, .ref qq), (4, .int (nI d))]) hx hb dLi_askAll_49 hl (k := 5) rfl (by rw [show (Int32.ofInt 1) = nI 1 from by decide]; exact nI_add _ _) (by decide) rfl (fun ls hl => ?_)
        refine lv_goto (tgt := 25) hx hb dLi_askAll_52 (by decide) ?_
        exact ih_lp (k + 1) h2_1 t2_2 (by omega) (askL_c j2 a1) (askL_s hn j3 a2) (by omega) _ _ _ (hP.sub [0, 1, 2, 3, 4] rfl) (hD.sub [0, 1, 2, 3, 4] (by decide) rfl) hS (lv_sub hl [1, 2, 3, 4, 5, 0] rfl)
  exact lp (d - 0 + 1) 0 ht_ tt (Nat.zero_le d) ((Int32.add_zero _).symm) ((Int64.add_zero _).symm) (by omega) _ _ _ (hP.sub [1, 2, 3, 4, 0] rfl) (hD.sub [1, 2, 3, 4, 0] (by decide) rfl) hS (lv_sub hl [2, 3, 4, 5, 1, 0] rfl)

set_option maxHeartbeats 4000000 in
set_option maxRecDepth 100000 in
theorem c_ruW (l : Launch) (D : va_G) (cJ cB cI cF : ClassId) (qf : Nat) (qr : Nat) (n : Nat) (d : Nat) (rn : Nat) (lo : Int64) (hi : Int64) (sl : Int64) (sh : Int64) (qc : Nat) (qs : Nat) (sz : Nat) (hr : rn ≤ 1024) : Met l yRu_weigh (Cond.code yRu_weigh cRu_weigh 2 (some .int) :: wsG) ({ frames := 1, cells := 0, slots := 0, locals := 20 }) (va_Pc [.ref qf, .ref qr] (cfPre D (cfT cJ cB cI cF) [(qf, .inr (6, [])), (qr, .inr (5, [.int (nI n), .int (nI d), .int (nI rn), .long lo, .long hi, .long sl, .long sh, .ref qc, .ref qs]))] sz)) (va_Qi (fun (r : Int32) (u : Unit) => r = nI ((16 + 80 * rn + 7) / 8) ∧ True) (fun u t => cfPost D ((fun (u : Unit) => [(qf, .inr (6, [])), (qr, .inr (5, [.int (nI n), .int (nI d), .int (nI rn), .long lo, .long hi, .long sl, .long sh, .ref qc, .ref qs]))]) u) (va_A [(qf, .inr (6, [])), (qr, .inr (5, [.int (nI n), .int (nI d), .int (nI rn), .long lo, .long hi, .long sl, .long sh, .ref qc, .ref qs]))] sz) t) (va_A [(qf, .inr (6, [])), (qr, .inr (5, [.int (nI n), .int (nI d), .int (nI rn), .long lo, .long hi, .long sl, .long sh, .ref qc, .ref qs]))] sz)) 0 0 (va_A [(qf, .inr (6, [])), (qr, .inr (5, [.int (nI n), .int (nI d), .int (nI rn), .long lo, .long hi, .long sl, .long sh, .ref qc, .ref qs]))] sz) := by
  refine met_i (cc := cRu_weigh) (maxL := 2) (S := Unit) (D := D) (wO := fun (u : Unit) => [(qf, .inr (6, [])), (qr, .inr (5, [.int (nI n), .int (nI d), .int (nI rn), .long lo, .long hi, .long sl, .long sh, .ref qc, .ref qs]))]) (by decide) (Nat.le_of_ble_eq_true rfl) ?_
  intro p e s m below meth c hx hb hml hown hts hlocks hin hWd A hA hsz hP hK hD hS Q hret ls hl
  have hown : s.vm.findClass "ColumnForms$Runs" = some m.cls := hown
  have hl : lv_has ls 2 [(0, .ref qf), (1, .ref qr)] := hl
  have hP : va_P D vwCl [(qf, .inr (6, [])), (qr, .inr (5, [.int (nI n), .int (nI d), .int (nI rn), .long lo, .long hi, .long sl, .long sh, .ref qc, .ref qs]))] s.heap := hP
  refine lv_bipush (v := nI 16) hx hb dRu_weigh_0 (by decide) ?_
  refine lv_bipush (v := nI 80) hx hb dRu_weigh_2 (by decide) ?_
  refine lv_aload_n hx hb dRu_weigh_4 rfl (lv_at hl 1 rfl) ?_
  refine va_get (D := D) (ci := 5) (v := .int (nI rn)) (C := "ColumnForms$Row") (T := TRo) (N := 9) hx hb hts inRo hown hK hP 1 rfl rfl 2 (by decide) (hts _ tw_45) (fun _ h9 => h9) rfl dRu_weigh_5 ?_
  refine lv_imul hx hb dRu_weigh_8 ?_
  refine tp_i (show ((nI 80) * (nI rn)) = (nI (80 * rn)) from pk_mul _ _) ?_
  refine lv_iadd hx hb dRu_weigh_9 ?_
  refine tp_i (show ((nI 16) + (nI (80 * rn))) = (nI (16 + (80 * rn))) from nI_add _ _) ?_
  refine kc_i (wc := []) (wr := [(qf, .inr (6, [])), (qr, .inr (5, [.int (nI n), .int (nI d), .int (nI rn), .long lo, .long hi, .long sl, .long sh, .ref qc, .ref qs]))]) hP hD hS hA [] [0, 1] rfl rfl (by decide) (by decide) (by decide) (fun hPc hDc => va_runSN (As := [.int (nI (16 + (80 * rn)))]) (rest := []) ⟨hx, hb, hml, hown, hts⟩ (c_whole l D cJ cB cI cF (16 + (80 * rn)) _ (by omega)) (⟨va_cnB 1 hts (wsG_c tw_173) rfl rfl rfl (hWd.nest 17 rfl) (hts _ tw_1) (by decide +kernel) ⟨Nat.le_of_ble_eq_true rfl, Nat.le_of_ble_eq_true rfl⟩, hts _ tw_172, trivial⟩) ⟨cf_blind, cf_pre hPc hK hDc hWd⟩ rfl rfl hl.1 rfl (lv_room (Nat.le_of_ble_eq_true rfl)) dRu_weigh_10 ⟨Nat.le_of_ble_eq_true rfl, Nat.le_of_ble_eq_true rfl⟩) (fun r u H locs hw hP hD hS => ?_)
  obtain ⟨rfl, -⟩ := hw
  have hP : va_P D vwCl [(qf, .inr (6, [])), (qr, .inr (5, [.int (nI n), .int (nI d), .int (nI rn), .long lo, .long hi, .long sl, .long sh, .ref qc, .ref qs]))] H := hP
  have hD : va_D A [(qf, .inr (6, [])), (qr, .inr (5, [.int (nI n), .int (nI d), .int (nI rn), .long lo, .long hi, .long sl, .long sh, .ref qc, .ref qs]))] := hD
  exact hret (nI (((16 + (80 * rn)) + 7) / 8)) () _ _ _ _ _ _ ⟨rfl, trivial⟩ (hP.sub [0, 1] rfl) (hD.sub [0, 1] (by decide) rfl) hS (Nat.le_of_ble_eq_true rfl) (Nat.le_of_ble_eq_true rfl) dRu_weigh_13

set_option maxHeartbeats 4000000 in
set_option maxRecDepth 100000 in
theorem c_ruL (l : Launch) (D : va_G) (cJ cB cI cF : ClassId) (qf : Nat) (qr : Nat) (n : Nat) (d : Nat) (rn : Nat) (lo : Int64) (hi : Int64) (sl : Int64) (sh : Int64) (qc : Nat) (qs : Nat) (xs : Nat → Int64) (rs : Nat → Int64) (qb : Nat) (qo : Nat) (o : Nat → Int32) (sz : Nat) (hR : rAll xs n d rn lo hi sl sh rs) (hn0 : 0 < n) : Met l yRu_lay (Cond.code yRu_lay cRu_lay 5 none :: wsG) ({ frames := 2, cells := 0, slots := 0, locals := 52 }) (va_Pc [.ref qf, .ref qr, .ref qb] (cfPre D (cfT cJ cB cI cF) [(qf, .inr (6, [])), (qr, .inr (5, [.int (nI n), .int (nI d), .int (nI rn), .long lo, .long hi, .long sl, .long sh, .ref qc, .ref qs])), (qc, .inl (cJ, 1024, .inr (.inl xs))), (qb, .inr (0, [.ref qo, .int (nI 0)])), (qo, .inl (cB, 10242, .inl o))] sz)) (va_Qv (fun (u : Nat × (Nat → Int32) × (Nat → Bool)) => (oB u.2.1 u.1 u.2.2) ∧ (lR xs n u.1 u.2.2) ∧ (u.1 ≤ 81936) ∧ True) (fun u t => cfPost D ((fun (u : Nat × (Nat → Int32) × (Nat → Bool)) => [(qf, .inr (6, [])), (qr, .inr (5, [.int (nI n), .int (nI d), .int (nI rn), .long lo, .long hi, .long sl, .long sh, .ref qc, .ref qs])), (qc, .inl (cJ, 1024, .inr (.inl xs))), (qb, .inr (0, [.ref qo, .int (nI u.1)])), (qo, .inl (cB, 10242, .inl u.2.1))]) u) (va_A [(qf, .inr (6, [])), (qr, .inr (5, [.int (nI n), .int (nI d), .int (nI rn), .long lo, .long hi, .long sl, .long sh, .ref qc, .ref qs])), (qc, .inl (cJ, 1024, .inr (.inl xs))), (qb, .inr (0, [.ref qo, .int (nI 0)])), (qo, .inl (cB, 10242, .inl o))] sz) t) (va_A [(qf, .inr (6, [])), (qr, .inr (5, [.int (nI n), .int (nI d), .int (nI rn), .long lo, .long hi, .long sl, .long sh, .ref qc, .ref qs])), (qc, .inl (cJ, 1024, .inr (.inl xs))), (qb, .inr (0, [.ref qo, .int (nI 0)])), (qo, .inl (cB, 10242, .inl o))] sz)) 0 0 (va_A [(qf, .inr (6, [])), (qr, .inr (5, [.int (nI n), .int (nI d), .int (nI rn), .long lo, .long hi, .long sl, .long sh, .ref qc, .ref qs])), (qc, .inl (cJ, 1024, .inr (.inl xs))), (qb, .inr (0, [.ref qo, .int (nI 0)])), (qo, .inl (cB, 10242, .inl o))] sz) := by
  refine met_v (cc := cRu_lay) (maxL := 5) (S := Nat × (Nat → Int32) × (Nat → Bool)) (D := D) (wO := fun (u : Nat × (Nat → Int32) × (Nat → Bool)) => [(qf, .inr (6, [])), (qr, .inr (5, [.int (nI n), .int (nI d), .int (nI rn), .long lo, .long hi, .long sl, .long sh, .ref qc, .ref qs])), (qc, .inl (cJ, 1024, .inr (.inl xs))), (qb, .inr (0, [.ref qo, .int (nI u.1)])), (qo, .inl (cB, 10242, .inl u.2.1))]) (by decide) (Nat.le_of_ble_eq_true rfl) ?_
  intro p e s m below meth c hx hb hml hown hts hlocks hin hWd A hA hsz hP hK hD hS Q hret ls hl
  have hown : s.vm.findClass "ColumnForms$Runs" = some m.cls := hown
  have hl : lv_has ls 5 [(0, .ref qf), (1, .ref qr), (2, .ref qb)] := hl
  have hP : va_P D vwCl [(qf, .inr (6, [])), (qr, .inr (5, [.int (nI n), .int (nI d), .int (nI rn), .long lo, .long hi, .long sl, .long sh, .ref qc, .ref qs])), (qc, .inl (cJ, 1024, .inr (.inl xs))), (qb, .inr (0, [.ref qo, .int (nI 0)])), (qo, .inl (cB, 10242, .inl o))] s.heap := hP
  have hn := hR.1
  have hrn := hR.2.2.1
  have hr1 : rn ≤ n := by rw [hrn]; exact rRn_le n
  refine lv_aload_n hx hb dRu_lay_0 rfl (lv_at hl 2 rfl) ?_
  refine lv_aload_n hx hb dRu_lay_1 rfl (lv_at hl 1 rfl) ?_
  refine va_get (D := D) (ci := 5) (v := .int (nI rn)) (C := "ColumnForms$Row") (T := TRo) (N := 9) hx hb hts inRo hown hK hP 1 rfl rfl 2 (by decide) (hts _ tw_45) (fun _ h9 => h9) rfl dRu_lay_2 ?_
  refine lv_i2l hx hb dRu_lay_5 rfl ?_
  refine tp_l (show ((nI rn).toInt64) = (lN rn) from nI_l (by omega)) ?_
  refine lv_bipush (v := nI 16) hx hb dRu_lay_6 (by decide) ?_
  refine kc_v (wc := [(qb, .inr (0, [.ref qo, .int (nI 0)])), (qo, .inl (cB, 10242, .inl o))]) (wr := [(qf, .inr (6, [])), (qr, .inr (5, [.int (nI n), .int (nI d), .int (nI rn), .long lo, .long hi, .long sl, .long sh, .ref qc, .ref qs])), (qc, .inl (cJ, 1024, .inr (.inl xs)))]) hP hD hS hA [3, 4] [0, 1, 2] rfl rfl (by decide) (by decide) (by decide) (fun hPc hDc => va_runV (As := [.long (lN rn), .int (nI 16)]) (rest := []) ⟨hx, hb, hml, hown, hts⟩ (c_append l D cJ cB cI cF qb qo 0 o (fun _ => false) (lN rn) 16 _ (oB_0 o _) (by omega) (by omega)) (cwV 2 hts (wsG_k tw_421 (wsG_k tw_395 (wsG_k tw_396 (wsG_k tw_3 (wsG_c tw_397))))) rfl rfl rfl (by decide +kernel) ⟨Nat.le_of_ble_eq_true rfl, Nat.le_of_ble_eq_true rfl⟩) ⟨cf_blind, va_recv hK hPc (ci := 0) (q0 := 0) rfl rfl, cf_pre hPc hK hDc hWd⟩ rfl rfl hl.1 rfl (lv_room (Nat.le_of_ble_eq_true rfl)) dRu_lay_8 ⟨Nat.le_of_ble_eq_true rfl, Nat.le_of_ble_eq_true rfl⟩) (fun u H locs hw hP hD hS => ?_)
  obtain ⟨o2_1, rfl⟩ : ∃ z, z = u := ⟨u, rfl⟩
  obtain ⟨e1, -⟩ := hw
  have e1 : oB o2_1 (0 + 16) (bA (fun _ => false) 0 (lN rn) 16) := e1
  have hP : va_P D vwCl [(qf, .inr (6, [])), (qr, .inr (5, [.int (nI n), .int (nI d), .int (nI rn), .long lo, .long hi, .long sl, .long sh, .ref qc, .ref qs])), (qc, .inl (cJ, 1024, .inr (.inl xs))), (qb, .inr (0, [.ref qo, .int (nI (0 + 16))])), (qo, .inl (cB, 10242, .inl o2_1))] H := hP
  have hD : va_D A [(qf, .inr (6, [])), (qr, .inr (5, [.int (nI n), .int (nI d), .int (nI rn), .long lo, .long hi, .long sl, .long sh, .ref qc, .ref qs])), (qc, .inl (cJ, 1024, .inr (.inl xs))), (qb, .inr (0, [.ref qo, .int (nI (0 + 16))])), (qo, .inl (cB, 10242, .inl o2_1))] := hD
  refine lv_iconst (v := nI 0) hx hb dRu_lay_11 (by decide) ?_
  refine lv_istore_n (lv' := [(3, .int (nI 0)), (0, .ref qf), (1, .ref qr), (2, .ref qb)]) hx hb dRu_lay_12 rfl hl (by decide) rfl (fun ls hl => ?_)
  refine lv_iconst (v := nI 1) hx hb dRu_lay_13 (by decide) ?_
  refine lv_istore (lv' := [(4, .int (nI 1)), (3, .int (nI 0)), (0, .ref qf), (1, .ref qr), (2, .ref qb)]) hx hb dRu_lay_14 hl (by decide) rfl (fun ls hl => ?_)
  have lp : ∀ (k_lp : Nat) (i : Nat) (st : Nat) (bq : Nat) (o1 : Nat → Int32) (B1 : Nat → Bool) (k : Nat) (sb : Nat → Nat), (1 ≤ i) → (i ≤ n + 1) → (rSt xs n i st k sb) → (bq = 16 + 80 * k) → (oB o1 bq B1) → (fld B1 0 16 (lN rn)) → (∀ m, m < k → fld B1 (16 + 80 * m) 64 (xs (sb m))) → (∀ m, m < k → fld B1 (16 + 80 * m + 64) 16 (lN (sb (m + 1) - sb m))) → (n + 1 - i < k_lp) → ∀ (H : Heap) (locs : List Loc) (ls : Array Slot), va_P D vwCl [(qf, .inr (6, [])), (qr, .inr (5, [.int (nI n), .int (nI d), .int (nI rn), .long lo, .long hi, .long sl, .long sh, .ref qc, .ref qs])), (qc, .inl (cJ, 1024, .inr (.inl xs))), (qb, .inr (0, [.ref qo, .int (nI bq)])), (qo, .inl (cB, 10242, .inl o1))] H → va_D A [(qf, .inr (6, [])), (qr, .inr (5, [.int (nI n), .int (nI d), .int (nI rn), .long lo, .long hi, .long sl, .long sh, .ref qc, .ref qs])), (qc, .inl (cJ, 1024, .inr (.inl xs))), (qb, .inr (0, [.ref qo, .int (nI bq)])), (qo, .inl (cB, 10242, .inl o1))] → va_S A s.heap H locs → lv_has ls 5 [(0, .ref qf), (1, .ref qr), (2, .ref qb), (3, .int (nI st)), (4, .int (nI i))] → W p l e ({ frames := 2, cells := 0, slots := 0, locals := 52 }) s m ([.ref qf, .ref qr, .ref qb].toArray) below meth c H locs (0) (0) Q (F0 m 16 ls []) := by
    intro k_lp
    induction k_lp with
    | zero => intro i st bq o1 B1 k sb g0 g1 g2 g3 g4 g5 g6 g7 hfu; exact absurd hfu (by omega)
    | succ k_lp ih_lp =>
      intro i st bq o1 B1 k sb g0 g1 g2 g3 g4 g5 g6 g7 hfu H locs ls hP hD hS hl
      have hks := rSt_k g2
      have hsn := g2.2.2.2.2.2
      refine lv_iload hx hb dRu_lay_16 (lv_at hl 4 rfl) ?_
      refine lv_aload_n hx hb dRu_lay_18 rfl (lv_at hl 1 rfl) ?_
      refine va_get (D := D) (ci := 5) (v := .int (nI n)) (C := "ColumnForms$Row") (T := TRo) (N := 9) hx hb hts inRo hown hK hP 1 rfl rfl 0 (by decide) (hts _ tw_42) (fun _ h9 => h9) rfl dRu_lay_19 ?_
      refine lv_icmp_gt (tgt := 80) hx hb dRu_lay_22 (by decide) (fun c22 => ?_) (fun c22 => ?_)
      · have c22 : n < i := (nI_ltI (by omega) (by omega)).mp c22
        exact hret (bq, o1, B1) _ _ _ _ _ _ ⟨g4, lR_of (by have e : i = n + 1 := (by omega); rw [← e]; exact g2) hrn g3 g5 g6 g7, by show bq ≤ _; omega, trivial⟩ (hP.sub [0, 1, 2, 3, 4] rfl) (hD.sub [0, 1, 2, 3, 4] (by decide) rfl) hS (Nat.le_of_ble_eq_true rfl) (Nat.le_of_ble_eq_true rfl) dRu_lay_80
      · have c22 : ¬ n < i := fun h => c22 ((nI_ltI (by omega) (by omega)).mpr h)
        refine lv_iload hx hb dRu_lay_25 (lv_at hl 4 rfl) ?_
        refine lv_aload_n hx hb dRu_lay_27 rfl (lv_at hl 1 rfl) ?_
        refine va_get (D := D) (ci := 5) (v := .int (nI n)) (C := "ColumnForms$Row") (T := TRo) (N := 9) hx hb hts inRo hown hK hP 1 rfl rfl 0 (by decide) (hts _ tw_42) (fun _ h9 => h9) rfl dRu_lay_28 ?_
        refine lv_icmp_eq (tgt := 49) hx hb dRu_lay_31 (by decide) (fun c31 => ?_) (fun c31 => ?_)
        · have c31 : i = n := (nI_eq (by omega) (by omega)).mp c31
          have hst := (g2.2.2.1 (by omega)).1
          refine lv_aload_n hx hb dRu_lay_49 rfl (lv_at hl 2 rfl) ?_
          refine lv_aload_n hx hb dRu_lay_50 rfl (lv_at hl 1 rfl) ?_
          refine lv_iload_n hx hb dRu_lay_51 rfl (lv_at hl 3 rfl) ?_
          refine kc_l (wc := [(qr, .inr (5, [.int (nI n), .int (nI d), .int (nI rn), .long lo, .long hi, .long sl, .long sh, .ref qc, .ref qs])), (qc, .inl (cJ, 1024, .inr (.inl xs)))]) (wr := [(qf, .inr (6, [])), (qb, .inr (0, [.ref qo, .int (nI bq)])), (qo, .inl (cB, 10242, .inl o1))]) hP hD hS hA [1, 2] [0, 3, 4] rfl rfl (by decide) (by decide) (by decide) (fun hPc hDc => va_runV (As := [.int (nI st)]) (rest := [.ref qb]) ⟨hx, hb, hml, hown, hts⟩ (c_at l D cJ cB cI cF qr n d rn lo hi sl sh qc qs xs st _ (by omega) (by omega)) (cwV 1 hts (wsG_k tw_422 (wsG_k tw_257 (wsG_k tw_258 (wsG_k tw_2 (wsG_c tw_259))))) rfl rfl rfl (by decide +kernel) ⟨Nat.le_of_ble_eq_true rfl, Nat.le_of_ble_eq_true rfl⟩) ⟨cf_blind, va_recv hK hPc (ci := 5) (q0 := 0) rfl rfl, cf_pre hPc hK hDc hWd⟩ rfl rfl hl.1 rfl (lv_room (Nat.le_of_ble_eq_true rfl)) dRu_lay_52 ⟨Nat.le_of_ble_eq_true rfl, Nat.le_of_ble_eq_true rfl⟩) (fun r u H locs hw hP hD hS => ?_)
          obtain ⟨rfl, -⟩ := hw
          have hP : va_P D vwCl [(qf, .inr (6, [])), (qb, .inr (0, [.ref qo, .int (nI bq)])), (qo, .inl (cB, 10242, .inl o1)), (qr, .inr (5, [.int (nI n), .int (nI d), .int (nI rn), .long lo, .long hi, .long sl, .long sh, .ref qc, .ref qs])), (qc, .inl (cJ, 1024, .inr (.inl xs)))] H := hP
          have hD : va_D A [(qf, .inr (6, [])), (qb, .inr (0, [.ref qo, .int (nI bq)])), (qo, .inl (cB, 10242, .inl o1)), (qr, .inr (5, [.int (nI n), .int (nI d), .int (nI rn), .long lo, .long hi, .long sl, .long sh, .ref qc, .ref qs])), (qc, .inl (cJ, 1024, .inr (.inl xs)))] := hD
          refine lv_bipush (v := nI 64) hx hb dRu_lay_55 (by decide) ?_
          refine kc_v (wc := [(qb, .inr (0, [.ref qo, .int (nI bq)])), (qo, .inl (cB, 10242, .inl o1))]) (wr := [(qf, .inr (6, [])), (qr, .inr (5, [.int (nI n), .int (nI d), .int (nI rn), .long lo, .long hi, .long sl, .long sh, .ref qc, .ref qs])), (qc, .inl (cJ, 1024, .inr (.inl xs)))]) hP hD hS hA [1, 2] [0, 3, 4] rfl rfl (by decide) (by decide) (by decide) (fun hPc hDc => va_runV (As := [.long (xs st), .int (nI 64)]) (rest := []) ⟨hx, hb, hml, hown, hts⟩ (c_append l D cJ cB cI cF qb qo bq o1 B1 (xs st) 64 _ (g4) (by omega) (by omega)) (cwV 2 hts (wsG_k tw_421 (wsG_k tw_395 (wsG_k tw_396 (wsG_k tw_3 (wsG_c tw_397))))) rfl rfl rfl (by decide +kernel) ⟨Nat.le_of_ble_eq_true rfl, Nat.le_of_ble_eq_true rfl⟩) ⟨cf_blind, va_recv hK hPc (ci := 0) (q0 := 0) rfl rfl, cf_pre hPc hK hDc hWd⟩ rfl rfl hl.1 rfl (lv_room (Nat.le_of_ble_eq_true rfl)) dRu_lay_57 ⟨Nat.le_of_ble_eq_true rfl, Nat.le_of_ble_eq_true rfl⟩) (fun u H locs hw hP hD hS => ?_)
          obtain ⟨o2_2, rfl⟩ : ∃ z, z = u := ⟨u, rfl⟩
          obtain ⟨e3, -⟩ := hw
          have e3 : oB o2_2 (bq + 64) (bA B1 bq (xs st) 64) := e3
          have hP : va_P D vwCl [(qf, .inr (6, [])), (qr, .inr (5, [.int (nI n), .int (nI d), .int (nI rn), .long lo, .long hi, .long sl, .long sh, .ref qc, .ref qs])), (qc, .inl (cJ, 1024, .inr (.inl xs))), (qb, .inr (0, [.ref qo, .int (nI (bq + 64))])), (qo, .inl (cB, 10242, .inl o2_2))] H := hP
          have hD : va_D A [(qf, .inr (6, [])), (qr, .inr (5, [.int (nI n), .int (nI d), .int (nI rn), .long lo, .long hi, .long sl, .long sh, .ref qc, .ref qs])), (qc, .inl (cJ, 1024, .inr (.inl xs))), (qb, .inr (0, [.ref qo, .int (nI (bq + 64))])), (qo, .inl (cB, 10242, .inl o2_2))] := hD
          refine lv_aload_n hx hb dRu_lay_60 rfl (lv_at hl 2 rfl) ?_
          refine lv_iload hx hb dRu_lay_61 (lv_at hl 4 rfl) ?_
          refine lv_iload_n hx hb dRu_lay_63 rfl (lv_at hl 3 rfl) ?_
          refine lv_isub hx hb dRu_lay_64 ?_
          refine tp_i (show ((nI i) - (nI st)) = (nI (i - st)) from pk_sub (by omega)) ?_
          refine lv_i2l hx hb dRu_lay_65 rfl ?_
          refine tp_l (show ((nI (i - st)).toInt64) = (lN (i - st)) from nI_l (by omega)) ?_
          refine lv_bipush (v := nI 16) hx hb dRu_lay_66 (by decide) ?_
          refine kc_v (wc := [(qb, .inr (0, [.ref qo, .int (nI (bq + 64))])), (qo, .inl (cB, 10242, .inl o2_2))]) (wr := [(qf, .inr (6, [])), (qr, .inr (5, [.int (nI n), .int (nI d), .int (nI rn), .long lo, .long hi, .long sl, .long sh, .ref qc, .ref qs])), (qc, .inl (cJ, 1024, .inr (.inl xs)))]) hP hD hS hA [3, 4] [0, 1, 2] rfl rfl (by decide) (by decide) (by decide) (fun hPc hDc => va_runV (As := [.long (lN (i - st)), .int (nI 16)]) (rest := []) ⟨hx, hb, hml, hown, hts⟩ (c_append l D cJ cB cI cF qb qo (bq + 64) o2_2 (bA B1 bq (xs st) 64) (lN (i - st)) 16 _ (e3) (by omega) (by omega)) (cwV 2 hts (wsG_k tw_421 (wsG_k tw_395 (wsG_k tw_396 (wsG_k tw_3 (wsG_c tw_397))))) rfl rfl rfl (by decide +kernel) ⟨Nat.le_of_ble_eq_true rfl, Nat.le_of_ble_eq_true rfl⟩) ⟨cf_blind, va_recv hK hPc (ci := 0) (q0 := 0) rfl rfl, cf_pre hPc hK hDc hWd⟩ rfl rfl hl.1 rfl (lv_room (Nat.le_of_ble_eq_true rfl)) dRu_lay_68 ⟨Nat.le_of_ble_eq_true rfl, Nat.le_of_ble_eq_true rfl⟩) (fun u H locs hw hP hD hS => ?_)
          obtain ⟨o2_3, rfl⟩ : ∃ z, z = u := ⟨u, rfl⟩
          obtain ⟨e4, -⟩ := hw
          have e4 : oB o2_3 ((bq + 64) + 16) (bA (bA B1 bq (xs st) 64) (bq + 64) (lN (i - st)) 16) := e4
          have hP : va_P D vwCl [(qf, .inr (6, [])), (qr, .inr (5, [.int (nI n), .int (nI d), .int (nI rn), .long lo, .long hi, .long sl, .long sh, .ref qc, .ref qs])), (qc, .inl (cJ, 1024, .inr (.inl xs))), (qb, .inr (0, [.ref qo, .int (nI ((bq + 64) + 16))])), (qo, .inl (cB, 10242, .inl o2_3))] H := hP
          have hD : va_D A [(qf, .inr (6, [])), (qr, .inr (5, [.int (nI n), .int (nI d), .int (nI rn), .long lo, .long hi, .long sl, .long sh, .ref qc, .ref qs])), (qc, .inl (cJ, 1024, .inr (.inl xs))), (qb, .inr (0, [.ref qo, .int (nI ((bq + 64) + 16))])), (qo, .inl (cB, 10242, .inl o2_3))] := hD
          refine lv_iload hx hb dRu_lay_71 (lv_at hl 4 rfl) ?_
          refine lv_istore_n (lv' := [(3, .int (nI i)), (0, .ref qf), (1, .ref qr), (2, .ref qb), (4, .int (nI i))]) hx hb dRu_lay_73 rfl hl (by decide) rfl (fun ls hl => ?_)
          refine lv_iinc (v := nI (i + 1)) (lv' := [(4, .int (nI (i + 1))), (3, .int (nI i)), (0, .ref qf), (1, .ref qr), (2, .ref qb)]) hx hb dRu_lay_74 hl (k := 4) rfl (by rw [show (Int32.ofInt 1) = nI 1 from by decide]; exact nI_add _ _) (by decide) rfl (fun ls hl => ?_)
          refine lv_goto (tgt := 16) hx hb dRu_lay_77 (by decide) ?_
          exact ih_lp (i + 1) i ((bq + 64) + 16) o2_3 (bA (bA B1 bq (xs st) 64) (bq + 64) (lN (i - st)) 16) (k + 1) (nUp sb (k + 1) i) (by omega) (by omega) (rSt_run g2 (by omega) (Or.inl c31)) (by omega) (e4) (fld_keep (fld_keep g5 (by omega)) (by omega)) (fld_all (a := fun m => 16 + 80 * m) (wd := fun _ => 64) (vl := fun m => xs (nUp sb (k + 1) i m)) (fld_add (a := fun m => 16 + 80 * m) (wd := fun _ => 64) (vl := fun m => xs (nUp sb (k + 1) i m)) (fld_nUp g6) (fun j hj => by show 16 + 80 * j + 64 ≤ bq; omega) (by show 16 + 80 * k = bq; omega) (by show xs (nUp sb (k + 1) i k) = _; rw [nUp_n (by omega), g2.2.1]) rfl) (fun j hj => by show 16 + 80 * j + 64 ≤ bq + 64; omega)) (fld_add (a := fun m => 16 + 80 * m + 64) (wd := fun _ => 16) (vl := fun m => lN (nUp sb (k + 1) i (m + 1) - nUp sb (k + 1) i m)) (fld_all (a := fun m => 16 + 80 * m + 64) (wd := fun _ => 16) (vl := fun m => lN (nUp sb (k + 1) i (m + 1) - nUp sb (k + 1) i m)) (fld_nUp2 g7) (fun j hj => by show 16 + 80 * j + 64 + 16 ≤ bq; omega)) (fun j hj => by show 16 + 80 * j + 64 + 16 ≤ bq + 64; omega) (by show 16 + 80 * k + 64 = bq + 64; omega) (by show lN (nUp sb (k + 1) i (k + 1) - nUp sb (k + 1) i k) = _; rw [nUp_s, nUp_n (by omega), g2.2.1]) rfl) (by omega) _ _ _ (hP.sub [0, 1, 2, 3, 4] rfl) (hD.sub [0, 1, 2, 3, 4] (by decide) rfl) hS (lv_sub hl [2, 3, 4, 1, 0] rfl)
        · have c31 : ¬ i = n := fun h => c31 ((nI_eq (by omega) (by omega)).mpr h)
          have hst := (g2.2.2.1 (by omega)).1
          refine lv_aload_n hx hb dRu_lay_34 rfl (lv_at hl 1 rfl) ?_
          refine lv_iload hx hb dRu_lay_35 (lv_at hl 4 rfl) ?_
          refine kc_l (wc := [(qr, .inr (5, [.int (nI n), .int (nI d), .int (nI rn), .long lo, .long hi, .long sl, .long sh, .ref qc, .ref qs])), (qc, .inl (cJ, 1024, .inr (.inl xs)))]) (wr := [(qf, .inr (6, [])), (qb, .inr (0, [.ref qo, .int (nI bq)])), (qo, .inl (cB, 10242, .inl o1))]) hP hD hS hA [1, 2] [0, 3, 4] rfl rfl (by decide) (by decide) (by decide) (fun hPc hDc => va_runV (As := [.int (nI i)]) (rest := []) ⟨hx, hb, hml, hown, hts⟩ (c_at l D cJ cB cI cF qr n d rn lo hi sl sh qc qs xs i _ (by omega) (by omega)) (cwV 1 hts (wsG_k tw_422 (wsG_k tw_257 (wsG_k tw_258 (wsG_k tw_2 (wsG_c tw_259))))) rfl rfl rfl (by decide +kernel) ⟨Nat.le_of_ble_eq_true rfl, Nat.le_of_ble_eq_true rfl⟩) ⟨cf_blind, va_recv hK hPc (ci := 5) (q0 := 0) rfl rfl, cf_pre hPc hK hDc hWd⟩ rfl rfl hl.1 rfl (lv_room (Nat.le_of_ble_eq_true rfl)) dRu_lay_37 ⟨Nat.le_of_ble_eq_true rfl, Nat.le_of_ble_eq_true rfl⟩) (fun r u H locs hw hP hD hS => ?_)
          obtain ⟨rfl, -⟩ := hw
          have hP : va_P D vwCl [(qf, .inr (6, [])), (qb, .inr (0, [.ref qo, .int (nI bq)])), (qo, .inl (cB, 10242, .inl o1)), (qr, .inr (5, [.int (nI n), .int (nI d), .int (nI rn), .long lo, .long hi, .long sl, .long sh, .ref qc, .ref qs])), (qc, .inl (cJ, 1024, .inr (.inl xs)))] H := hP
          have hD : va_D A [(qf, .inr (6, [])), (qb, .inr (0, [.ref qo, .int (nI bq)])), (qo, .inl (cB, 10242, .inl o1)), (qr, .inr (5, [.int (nI n), .int (nI d), .int (nI rn), .long lo, .long hi, .long sl, .long sh, .ref qc, .ref qs])), (qc, .inl (cJ, 1024, .inr (.inl xs)))] := hD
          refine lv_aload_n hx hb dRu_lay_40 rfl (lv_at hl 1 rfl) ?_
          refine lv_iload_n hx hb dRu_lay_41 rfl (lv_at hl 3 rfl) ?_
          refine kc_l (wc := [(qr, .inr (5, [.int (nI n), .int (nI d), .int (nI rn), .long lo, .long hi, .long sl, .long sh, .ref qc, .ref qs])), (qc, .inl (cJ, 1024, .inr (.inl xs)))]) (wr := [(qf, .inr (6, [])), (qb, .inr (0, [.ref qo, .int (nI bq)])), (qo, .inl (cB, 10242, .inl o1))]) hP hD hS hA [3, 4] [0, 1, 2] rfl rfl (by decide) (by decide) (by decide) (fun hPc hDc => va_runV (As := [.int (nI st)]) (rest := [.long (xs i)]) ⟨hx, hb, hml, hown, hts⟩ (c_at l D cJ cB cI cF qr n d rn lo hi sl sh qc qs xs st _ (by omega) (by omega)) (cwV 1 hts (wsG_k tw_422 (wsG_k tw_257 (wsG_k tw_258 (wsG_k tw_2 (wsG_c tw_259))))) rfl rfl rfl (by decide +kernel) ⟨Nat.le_of_ble_eq_true rfl, Nat.le_of_ble_eq_true rfl⟩) ⟨cf_blind, va_recv hK hPc (ci := 5) (q0 := 0) rfl rfl, cf_pre hPc hK hDc hWd⟩ rfl rfl hl.1 rfl (lv_room (Nat.le_of_ble_eq_true rfl)) dRu_lay_42 ⟨Nat.le_of_ble_eq_true rfl, Nat.le_of_ble_eq_true rfl⟩) (fun r u H locs hw hP hD hS => ?_)
          obtain ⟨rfl, -⟩ := hw
          have hP : va_P D vwCl [(qf, .inr (6, [])), (qb, .inr (0, [.ref qo, .int (nI bq)])), (qo, .inl (cB, 10242, .inl o1)), (qr, .inr (5, [.int (nI n), .int (nI d), .int (nI rn), .long lo, .long hi, .long sl, .long sh, .ref qc, .ref qs])), (qc, .inl (cJ, 1024, .inr (.inl xs)))] H := hP
          have hD : va_D A [(qf, .inr (6, [])), (qb, .inr (0, [.ref qo, .int (nI bq)])), (qo, .inl (cB, 10242, .inl o1)), (qr, .inr (5, [.int (nI n), .int (nI d), .int (nI rn), .long lo, .long hi, .long sl, .long sh, .ref qc, .ref qs])), (qc, .inl (cJ, 1024, .inr (.inl xs)))] := hD
          refine W.lcmp hx hb dRu_lay_45 ?_
          refine lv_if_eq (tgt := 74) hx hb dRu_lay_46 (by decide) (fun c46 => ?_) (fun c46 => ?_)
          · have c46 : (xs i) = (xs st) := (lg_cmp_eq _ _).mp c46
            refine lv_iinc (v := nI (i + 1)) (lv' := [(4, .int (nI (i + 1))), (0, .ref qf), (1, .ref qr), (2, .ref qb), (3, .int (nI st))]) hx hb dRu_lay_74 hl (k := 4) rfl (by rw [show (Int32.ofInt 1) = nI 1 from by decide]; exact nI_add _ _) (by decide) rfl (fun ls hl => ?_)
            refine lv_goto (tgt := 16) hx hb dRu_lay_77 (by decide) ?_
            exact ih_lp (i + 1) st bq o1 B1 k sb (by omega) (by omega) (rSt_same g2 (by omega) c46) (g3) (g4) (g5) (g6) (g7) (by omega) _ _ _ (hP.sub [0, 3, 4, 1, 2] rfl) (hD.sub [0, 3, 4, 1, 2] (by decide) rfl) hS (lv_sub hl [1, 2, 3, 4, 0] rfl)
          · have c46 : ¬ (xs i) = (xs st) := fun h => c46 ((lg_cmp_eq _ _).mpr h)
            refine lv_aload_n hx hb dRu_lay_49 rfl (lv_at hl 2 rfl) ?_
            refine lv_aload_n hx hb dRu_lay_50 rfl (lv_at hl 1 rfl) ?_
            refine lv_iload_n hx hb dRu_lay_51 rfl (lv_at hl 3 rfl) ?_
            refine kc_l (wc := [(qr, .inr (5, [.int (nI n), .int (nI d), .int (nI rn), .long lo, .long hi, .long sl, .long sh, .ref qc, .ref qs])), (qc, .inl (cJ, 1024, .inr (.inl xs)))]) (wr := [(qf, .inr (6, [])), (qb, .inr (0, [.ref qo, .int (nI bq)])), (qo, .inl (cB, 10242, .inl o1))]) hP hD hS hA [3, 4] [0, 1, 2] rfl rfl (by decide) (by decide) (by decide) (fun hPc hDc => va_runV (As := [.int (nI st)]) (rest := [.ref qb]) ⟨hx, hb, hml, hown, hts⟩ (c_at l D cJ cB cI cF qr n d rn lo hi sl sh qc qs xs st _ (by omega) (by omega)) (cwV 1 hts (wsG_k tw_422 (wsG_k tw_257 (wsG_k tw_258 (wsG_k tw_2 (wsG_c tw_259))))) rfl rfl rfl (by decide +kernel) ⟨Nat.le_of_ble_eq_true rfl, Nat.le_of_ble_eq_true rfl⟩) ⟨cf_blind, va_recv hK hPc (ci := 5) (q0 := 0) rfl rfl, cf_pre hPc hK hDc hWd⟩ rfl rfl hl.1 rfl (lv_room (Nat.le_of_ble_eq_true rfl)) dRu_lay_52 ⟨Nat.le_of_ble_eq_true rfl, Nat.le_of_ble_eq_true rfl⟩) (fun r u H locs hw hP hD hS => ?_)
            obtain ⟨rfl, -⟩ := hw
            have hP : va_P D vwCl [(qf, .inr (6, [])), (qb, .inr (0, [.ref qo, .int (nI bq)])), (qo, .inl (cB, 10242, .inl o1)), (qr, .inr (5, [.int (nI n), .int (nI d), .int (nI rn), .long lo, .long hi, .long sl, .long sh, .ref qc, .ref qs])), (qc, .inl (cJ, 1024, .inr (.inl xs)))] H := hP
            have hD : va_D A [(qf, .inr (6, [])), (qb, .inr (0, [.ref qo, .int (nI bq)])), (qo, .inl (cB, 10242, .inl o1)), (qr, .inr (5, [.int (nI n), .int (nI d), .int (nI rn), .long lo, .long hi, .long sl, .long sh, .ref qc, .ref qs])), (qc, .inl (cJ, 1024, .inr (.inl xs)))] := hD
            refine lv_bipush (v := nI 64) hx hb dRu_lay_55 (by decide) ?_
            refine kc_v (wc := [(qb, .inr (0, [.ref qo, .int (nI bq)])), (qo, .inl (cB, 10242, .inl o1))]) (wr := [(qf, .inr (6, [])), (qr, .inr (5, [.int (nI n), .int (nI d), .int (nI rn), .long lo, .long hi, .long sl, .long sh, .ref qc, .ref qs])), (qc, .inl (cJ, 1024, .inr (.inl xs)))]) hP hD hS hA [1, 2] [0, 3, 4] rfl rfl (by decide) (by decide) (by decide) (fun hPc hDc => va_runV (As := [.long (xs st), .int (nI 64)]) (rest := []) ⟨hx, hb, hml, hown, hts⟩ (c_append l D cJ cB cI cF qb qo bq o1 B1 (xs st) 64 _ (g4) (by omega) (by omega)) (cwV 2 hts (wsG_k tw_421 (wsG_k tw_395 (wsG_k tw_396 (wsG_k tw_3 (wsG_c tw_397))))) rfl rfl rfl (by decide +kernel) ⟨Nat.le_of_ble_eq_true rfl, Nat.le_of_ble_eq_true rfl⟩) ⟨cf_blind, va_recv hK hPc (ci := 0) (q0 := 0) rfl rfl, cf_pre hPc hK hDc hWd⟩ rfl rfl hl.1 rfl (lv_room (Nat.le_of_ble_eq_true rfl)) dRu_lay_57 ⟨Nat.le_of_ble_eq_true rfl, Nat.le_of_ble_eq_true rfl⟩) (fun u H locs hw hP hD hS => ?_)
            obtain ⟨o2_4, rfl⟩ : ∃ z, z = u := ⟨u, rfl⟩
            obtain ⟨e3, -⟩ := hw
            have e3 : oB o2_4 (bq + 64) (bA B1 bq (xs st) 64) := e3
            have hP : va_P D vwCl [(qf, .inr (6, [])), (qr, .inr (5, [.int (nI n), .int (nI d), .int (nI rn), .long lo, .long hi, .long sl, .long sh, .ref qc, .ref qs])), (qc, .inl (cJ, 1024, .inr (.inl xs))), (qb, .inr (0, [.ref qo, .int (nI (bq + 64))])), (qo, .inl (cB, 10242, .inl o2_4))] H := hP
            have hD : va_D A [(qf, .inr (6, [])), (qr, .inr (5, [.int (nI n), .int (nI d), .int (nI rn), .long lo, .long hi, .long sl, .long sh, .ref qc, .ref qs])), (qc, .inl (cJ, 1024, .inr (.inl xs))), (qb, .inr (0, [.ref qo, .int (nI (bq + 64))])), (qo, .inl (cB, 10242, .inl o2_4))] := hD
            refine lv_aload_n hx hb dRu_lay_60 rfl (lv_at hl 2 rfl) ?_
            refine lv_iload hx hb dRu_lay_61 (lv_at hl 4 rfl) ?_
            refine lv_iload_n hx hb dRu_lay_63 rfl (lv_at hl 3 rfl) ?_
            refine lv_isub hx hb dRu_lay_64 ?_
            refine tp_i (show ((nI i) - (nI st)) = (nI (i - st)) from pk_sub (by omega)) ?_
            refine lv_i2l hx hb dRu_lay_65 rfl ?_
            refine tp_l (show ((nI (i - st)).toInt64) = (lN (i - st)) from nI_l (by omega)) ?_
            refine lv_bipush (v := nI 16) hx hb dRu_lay_66 (by decide) ?_
            refine kc_v (wc := [(qb, .inr (0, [.ref qo, .int (nI (bq + 64))])), (qo, .inl (cB, 10242, .inl o2_4))]) (wr := [(qf, .inr (6, [])), (qr, .inr (5, [.int (nI n), .int (nI d), .int (nI rn), .long lo, .long hi, .long sl, .long sh, .ref qc, .ref qs])), (qc, .inl (cJ, 1024, .inr (.inl xs)))]) hP hD hS hA [3, 4] [0, 1, 2] rfl rfl (by decide) (by decide) (by decide) (fun hPc hDc => va_runV (As := [.long (lN (i - st)), .int (nI 16)]) (rest := []) ⟨hx, hb, hml, hown, hts⟩ (c_append l D cJ cB cI cF qb qo (bq + 64) o2_4 (bA B1 bq (xs st) 64) (lN (i - st)) 16 _ (e3) (by omega) (by omega)) (cwV 2 hts (wsG_k tw_421 (wsG_k tw_395 (wsG_k tw_396 (wsG_k tw_3 (wsG_c tw_397))))) rfl rfl rfl (by decide +kernel) ⟨Nat.le_of_ble_eq_true rfl, Nat.le_of_ble_eq_true rfl⟩) ⟨cf_blind, va_recv hK hPc (ci := 0) (q0 := 0) rfl rfl, cf_pre hPc hK hDc hWd⟩ rfl rfl hl.1 rfl (lv_room (Nat.le_of_ble_eq_true rfl)) dRu_lay_68 ⟨Nat.le_of_ble_eq_true rfl, Nat.le_of_ble_eq_true rfl⟩) (fun u H locs hw hP hD hS => ?_)
            obtain ⟨o2_5, rfl⟩ : ∃ z, z = u := ⟨u, rfl⟩
            obtain ⟨e4, -⟩ := hw
            have e4 : oB o2_5 ((bq + 64) + 16) (bA (bA B1 bq (xs st) 64) (bq + 64) (lN (i - st)) 16) := e4
            have hP : va_P D vwCl [(qf, .inr (6, [])), (qr, .inr (5, [.int (nI n), .int (nI d), .int (nI rn), .long lo, .long hi, .long sl, .long sh, .ref qc, .ref qs])), (qc, .inl (cJ, 1024, .inr (.inl xs))), (qb, .inr (0, [.ref qo, .int (nI ((bq + 64) + 16))])), (qo, .inl (cB, 10242, .inl o2_5))] H := hP
            have hD : va_D A [(qf, .inr (6, [])), (qr, .inr (5, [.int (nI n), .int (nI d), .int (nI rn), .long lo, .long hi, .long sl, .long sh, .ref qc, .ref qs])), (qc, .inl (cJ, 1024, .inr (.inl xs))), (qb, .inr (0, [.ref qo, .int (nI ((bq + 64) + 16))])), (qo, .inl (cB, 10242, .inl o2_5))] := hD
            refine lv_iload hx hb dRu_lay_71 (lv_at hl 4 rfl) ?_
            refine lv_istore_n (lv' := [(3, .int (nI i)), (0, .ref qf), (1, .ref qr), (2, .ref qb), (4, .int (nI i))]) hx hb dRu_lay_73 rfl hl (by decide) rfl (fun ls hl => ?_)
            refine lv_iinc (v := nI (i + 1)) (lv' := [(4, .int (nI (i + 1))), (3, .int (nI i)), (0, .ref qf), (1, .ref qr), (2, .ref qb)]) hx hb dRu_lay_74 hl (k := 4) rfl (by rw [show (Int32.ofInt 1) = nI 1 from by decide]; exact nI_add _ _) (by decide) rfl (fun ls hl => ?_)
            refine lv_goto (tgt := 16) hx hb dRu_lay_77 (by decide) ?_
            exact ih_lp (i + 1) i ((bq + 64) + 16) o2_5 (bA (bA B1 bq (xs st) 64) (bq + 64) (lN (i - st)) 16) (k + 1) (nUp sb (k + 1) i) (by omega) (by omega) (rSt_run g2 (by omega) (Or.inr c46)) (by omega) (e4) (fld_keep (fld_keep g5 (by omega)) (by omega)) (fld_all (a := fun m => 16 + 80 * m) (wd := fun _ => 64) (vl := fun m => xs (nUp sb (k + 1) i m)) (fld_add (a := fun m => 16 + 80 * m) (wd := fun _ => 64) (vl := fun m => xs (nUp sb (k + 1) i m)) (fld_nUp g6) (fun j hj => by show 16 + 80 * j + 64 ≤ bq; omega) (by show 16 + 80 * k = bq; omega) (by show xs (nUp sb (k + 1) i k) = _; rw [nUp_n (by omega), g2.2.1]) rfl) (fun j hj => by show 16 + 80 * j + 64 ≤ bq + 64; omega)) (fld_add (a := fun m => 16 + 80 * m + 64) (wd := fun _ => 16) (vl := fun m => lN (nUp sb (k + 1) i (m + 1) - nUp sb (k + 1) i m)) (fld_all (a := fun m => 16 + 80 * m + 64) (wd := fun _ => 16) (vl := fun m => lN (nUp sb (k + 1) i (m + 1) - nUp sb (k + 1) i m)) (fld_nUp2 g7) (fun j hj => by show 16 + 80 * j + 64 + 16 ≤ bq; omega)) (fun j hj => by show 16 + 80 * j + 64 + 16 ≤ bq + 64; omega) (by show 16 + 80 * k + 64 = bq + 64; omega) (by show lN (nUp sb (k + 1) i (k + 1) - nUp sb (k + 1) i k) = _; rw [nUp_s, nUp_n (by omega), g2.2.1]) rfl) (by omega) _ _ _ (hP.sub [0, 1, 2, 3, 4] rfl) (hD.sub [0, 1, 2, 3, 4] (by decide) rfl) hS (lv_sub hl [2, 3, 4, 1, 0] rfl)
  exact lp (n + 1 - 1 + 1) 1 0 (0 + 16) o2_1 (bA (fun _ => false) 0 (lN rn) 16) 0 (fun _ => 0) (by omega) (by omega) (rSt_0 hn0) (rfl) (e1) (bA_fld _ _ _ _) (fun j hj => absurd hj (by omega)) (fun j hj => absurd hj (by omega)) (by omega) _ _ _ (hP.sub [0, 1, 2, 3, 4] rfl) (hD.sub [0, 1, 2, 3, 4] (by decide) rfl) hS (lv_sub hl [2, 3, 4, 1, 0] rfl)

set_option maxHeartbeats 4000000 in
set_option maxRecDepth 100000 in
theorem c_ruI (l : Launch) (D : va_G) (cJ cB cI cF : ClassId) (qb : Nat) (qo : Nat) (bc : Nat) (o : Nat → Int32) (B : Nat → Bool) (k : Nat) (sz : Nat) (hc : oB o bc B) (hbm : bc ≤ 81936) (hb0 : 16 ≤ bc) (hf : fld B 0 16 (lN k)) (hd : k ≤ 1024) : Met l yRu_runsIn (Cond.code yRu_runsIn cRu_runsIn 1 (some .int) :: wsG) ({ frames := 2, cells := 0, slots := 0, locals := 51 }) (va_Pc [.ref qb] (cfPre D (cfT cJ cB cI cF) [(qb, .inr (0, [.ref qo, .int (nI bc)])), (qo, .inl (cB, 10242, .inl o))] sz)) (va_Qi (fun (r : Int32) (u : Unit) => r = nI k ∧ True) (fun u t => cfPost D ((fun (u : Unit) => [(qb, .inr (0, [.ref qo, .int (nI bc)])), (qo, .inl (cB, 10242, .inl o))]) u) (va_A [(qb, .inr (0, [.ref qo, .int (nI bc)])), (qo, .inl (cB, 10242, .inl o))] sz) t) (va_A [(qb, .inr (0, [.ref qo, .int (nI bc)])), (qo, .inl (cB, 10242, .inl o))] sz)) 0 0 (va_A [(qb, .inr (0, [.ref qo, .int (nI bc)])), (qo, .inl (cB, 10242, .inl o))] sz) := by
  refine met_i (cc := cRu_runsIn) (maxL := 1) (S := Unit) (D := D) (wO := fun (u : Unit) => [(qb, .inr (0, [.ref qo, .int (nI bc)])), (qo, .inl (cB, 10242, .inl o))]) (by decide) (Nat.le_of_ble_eq_true rfl) ?_
  intro p e s m below meth c hx hb hml hown hts hlocks hin hWd A hA hsz hP hK hD hS Q hret ls hl
  have hown : s.vm.findClass "ColumnForms$Runs" = some m.cls := hown
  have hl : lv_has ls 1 [(0, .ref qb)] := hl
  have hP : va_P D vwCl [(qb, .inr (0, [.ref qo, .int (nI bc)])), (qo, .inl (cB, 10242, .inl o))] s.heap := hP
  refine lv_aload_n hx hb dRu_runsIn_0 rfl (lv_at hl 0 rfl) ?_
  refine lv_iconst (v := nI 0) hx hb dRu_runsIn_1 (by decide) ?_
  refine lv_bipush (v := nI 16) hx hb dRu_runsIn_2 (by decide) ?_
  refine kc_l (wc := [(qb, .inr (0, [.ref qo, .int (nI bc)])), (qo, .inl (cB, 10242, .inl o))]) (wr := []) hP hD hS hA [0, 1] [] rfl rfl (by decide) (by decide) (by decide) (fun hPc hDc => va_runV (As := [.int (nI 0), .int (nI 16)]) (rest := []) ⟨hx, hb, hml, hown, hts⟩ (c_bitsAt l D cJ cB cI cF qb qo bc o B 0 16 (lN k) _ (hc) (hbm) (by omega) (by omega) (hf) (lN_small (Nat.lt_of_le_of_lt hd (by decide)) (by omega))) (cwV 2 hts (wsG_k tw_486 (wsG_k tw_465 (wsG_k tw_466 (wsG_k tw_3 (wsG_c tw_467))))) rfl rfl rfl (by decide +kernel) ⟨Nat.le_of_ble_eq_true rfl, Nat.le_of_ble_eq_true rfl⟩) ⟨cf_blind, va_recv hK hPc (ci := 0) (q0 := 0) rfl rfl, cf_pre hPc hK hDc hWd⟩ rfl rfl hl.1 rfl (lv_room (Nat.le_of_ble_eq_true rfl)) dRu_runsIn_4 ⟨Nat.le_of_ble_eq_true rfl, Nat.le_of_ble_eq_true rfl⟩) (fun r u H locs hw hP hD hS => ?_)
  obtain ⟨rfl, -⟩ := hw
  have hP : va_P D vwCl [(qb, .inr (0, [.ref qo, .int (nI bc)])), (qo, .inl (cB, 10242, .inl o))] H := hP
  have hD : va_D A [(qb, .inr (0, [.ref qo, .int (nI bc)])), (qo, .inl (cB, 10242, .inl o))] := hD
  refine lv_l2i hx hb dRu_runsIn_7 rfl ?_
  refine tp_i (show ((lN k).toInt32) = (nI k) from lN_i _) ?_
  exact hret (nI k) () _ _ _ _ _ _ ⟨rfl, trivial⟩ (hP.sub [0, 1] rfl) (hD.sub [0, 1] (by decide) rfl) hS (Nat.le_of_ble_eq_true rfl) (Nat.le_of_ble_eq_true rfl) dRu_runsIn_8

set_option maxHeartbeats 4000000 in
set_option maxRecDepth 100000 in
theorem c_ruC (l : Launch) (D : va_G) (cJ cB cI cF : ClassId) (qb : Nat) (qo : Nat) (bc : Nat) (o : Nat → Int32) (B : Nat → Bool) (k : Nat) (vv : Int64) (sz : Nat) (hc : oB o bc B) (hbm : bc ≤ 81936) (hb0 : 16 + 80 * k + 64 ≤ bc) (hf : fld B (16 + 80 * k) 64 vv) : Met l yRu_cellOf (Cond.code yRu_cellOf cRu_cellOf 2 (some .long) :: wsG) ({ frames := 2, cells := 0, slots := 0, locals := 51 }) (va_Pc [.ref qb, .int (nI k)] (cfPre D (cfT cJ cB cI cF) [(qb, .inr (0, [.ref qo, .int (nI bc)])), (qo, .inl (cB, 10242, .inl o))] sz)) (va_Ql (fun (r : Int64) (u : Unit) => r = vv ∧ True) (fun u t => cfPost D ((fun (u : Unit) => [(qb, .inr (0, [.ref qo, .int (nI bc)])), (qo, .inl (cB, 10242, .inl o))]) u) (va_A [(qb, .inr (0, [.ref qo, .int (nI bc)])), (qo, .inl (cB, 10242, .inl o))] sz) t) (va_A [(qb, .inr (0, [.ref qo, .int (nI bc)])), (qo, .inl (cB, 10242, .inl o))] sz)) 0 0 (va_A [(qb, .inr (0, [.ref qo, .int (nI bc)])), (qo, .inl (cB, 10242, .inl o))] sz) := by
  refine met_l (cc := cRu_cellOf) (maxL := 2) (S := Unit) (D := D) (wO := fun (u : Unit) => [(qb, .inr (0, [.ref qo, .int (nI bc)])), (qo, .inl (cB, 10242, .inl o))]) (by decide) (Nat.le_of_ble_eq_true rfl) ?_
  intro p e s m below meth c hx hb hml hown hts hlocks hin hWd A hA hsz hP hK hD hS Q hret ls hl
  have hown : s.vm.findClass "ColumnForms$Runs" = some m.cls := hown
  have hl : lv_has ls 2 [(0, .ref qb), (1, .int (nI k))] := hl
  have hP : va_P D vwCl [(qb, .inr (0, [.ref qo, .int (nI bc)])), (qo, .inl (cB, 10242, .inl o))] s.heap := hP
  refine lv_aload_n hx hb dRu_cellOf_0 rfl (lv_at hl 0 rfl) ?_
  refine lv_bipush (v := nI 16) hx hb dRu_cellOf_1 (by decide) ?_
  refine lv_bipush (v := nI 80) hx hb dRu_cellOf_3 (by decide) ?_
  refine lv_iload_n hx hb dRu_cellOf_5 rfl (lv_at hl 1 rfl) ?_
  refine lv_imul hx hb dRu_cellOf_6 ?_
  refine tp_i (show ((nI 80) * (nI k)) = (nI (80 * k)) from pk_mul _ _) ?_
  refine lv_iadd hx hb dRu_cellOf_7 ?_
  refine tp_i (show ((nI 16) + (nI (80 * k))) = (nI (16 + (80 * k))) from nI_add _ _) ?_
  refine lv_bipush (v := nI 64) hx hb dRu_cellOf_8 (by decide) ?_
  refine kc_l (wc := [(qb, .inr (0, [.ref qo, .int (nI bc)])), (qo, .inl (cB, 10242, .inl o))]) (wr := []) hP hD hS hA [0, 1] [] rfl rfl (by decide) (by decide) (by decide) (fun hPc hDc => va_runV (As := [.int (nI (16 + (80 * k))), .int (nI 64)]) (rest := []) ⟨hx, hb, hml, hown, hts⟩ (c_bitsAt l D cJ cB cI cF qb qo bc o B (16 + (80 * k)) 64 vv _ (hc) (hbm) (by omega) (by omega) (hf) (bL_64)) (cwV 2 hts (wsG_k tw_486 (wsG_k tw_465 (wsG_k tw_466 (wsG_k tw_3 (wsG_c tw_467))))) rfl rfl rfl (by decide +kernel) ⟨Nat.le_of_ble_eq_true rfl, Nat.le_of_ble_eq_true rfl⟩) ⟨cf_blind, va_recv hK hPc (ci := 0) (q0 := 0) rfl rfl, cf_pre hPc hK hDc hWd⟩ rfl rfl hl.1 rfl (lv_room (Nat.le_of_ble_eq_true rfl)) dRu_cellOf_10 ⟨Nat.le_of_ble_eq_true rfl, Nat.le_of_ble_eq_true rfl⟩) (fun r u H locs hw hP hD hS => ?_)
  obtain ⟨hrv, -⟩ := hw
  rw [hrv]
  have hP : va_P D vwCl [(qb, .inr (0, [.ref qo, .int (nI bc)])), (qo, .inl (cB, 10242, .inl o))] H := hP
  have hD : va_D A [(qb, .inr (0, [.ref qo, .int (nI bc)])), (qo, .inl (cB, 10242, .inl o))] := hD
  exact hret vv () _ _ _ _ _ _ ⟨rfl, trivial⟩ (hP.sub [0, 1] rfl) (hD.sub [0, 1] (by decide) rfl) hS (Nat.le_of_ble_eq_true rfl) (Nat.le_of_ble_eq_true rfl) dRu_cellOf_13

set_option maxHeartbeats 4000000 in
set_option maxRecDepth 100000 in
theorem c_ruN (l : Launch) (D : va_G) (cJ cB cI cF : ClassId) (qb : Nat) (qo : Nat) (bc : Nat) (o : Nat → Int32) (B : Nat → Bool) (k : Nat) (z : Nat) (sz : Nat) (hc : oB o bc B) (hbm : bc ≤ 81936) (hb0 : 16 + 80 * k + 80 ≤ bc) (hf : fld B (16 + 80 * k + 64) 16 (lN z)) (hz : z ≤ 1024) : Met l yRu_lengthOf (Cond.code yRu_lengthOf cRu_lengthOf 2 (some .int) :: wsG) ({ frames := 2, cells := 0, slots := 0, locals := 51 }) (va_Pc [.ref qb, .int (nI k)] (cfPre D (cfT cJ cB cI cF) [(qb, .inr (0, [.ref qo, .int (nI bc)])), (qo, .inl (cB, 10242, .inl o))] sz)) (va_Qi (fun (r : Int32) (u : Unit) => r = nI z ∧ True) (fun u t => cfPost D ((fun (u : Unit) => [(qb, .inr (0, [.ref qo, .int (nI bc)])), (qo, .inl (cB, 10242, .inl o))]) u) (va_A [(qb, .inr (0, [.ref qo, .int (nI bc)])), (qo, .inl (cB, 10242, .inl o))] sz) t) (va_A [(qb, .inr (0, [.ref qo, .int (nI bc)])), (qo, .inl (cB, 10242, .inl o))] sz)) 0 0 (va_A [(qb, .inr (0, [.ref qo, .int (nI bc)])), (qo, .inl (cB, 10242, .inl o))] sz) := by
  refine met_i (cc := cRu_lengthOf) (maxL := 2) (S := Unit) (D := D) (wO := fun (u : Unit) => [(qb, .inr (0, [.ref qo, .int (nI bc)])), (qo, .inl (cB, 10242, .inl o))]) (by decide) (Nat.le_of_ble_eq_true rfl) ?_
  intro p e s m below meth c hx hb hml hown hts hlocks hin hWd A hA hsz hP hK hD hS Q hret ls hl
  have hown : s.vm.findClass "ColumnForms$Runs" = some m.cls := hown
  have hl : lv_has ls 2 [(0, .ref qb), (1, .int (nI k))] := hl
  have hP : va_P D vwCl [(qb, .inr (0, [.ref qo, .int (nI bc)])), (qo, .inl (cB, 10242, .inl o))] s.heap := hP
  refine lv_aload_n hx hb dRu_lengthOf_0 rfl (lv_at hl 0 rfl) ?_
  refine lv_bipush (v := nI 16) hx hb dRu_lengthOf_1 (by decide) ?_
  refine lv_bipush (v := nI 80) hx hb dRu_lengthOf_3 (by decide) ?_
  refine lv_iload_n hx hb dRu_lengthOf_5 rfl (lv_at hl 1 rfl) ?_
  refine lv_imul hx hb dRu_lengthOf_6 ?_
  refine tp_i (show ((nI 80) * (nI k)) = (nI (80 * k)) from pk_mul _ _) ?_
  refine lv_iadd hx hb dRu_lengthOf_7 ?_
  refine tp_i (show ((nI 16) + (nI (80 * k))) = (nI (16 + (80 * k))) from nI_add _ _) ?_
  refine lv_bipush (v := nI 64) hx hb dRu_lengthOf_8 (by decide) ?_
  refine lv_iadd hx hb dRu_lengthOf_10 ?_
  refine tp_i (show ((nI (16 + (80 * k))) + (nI 64)) = (nI ((16 + (80 * k)) + 64)) from nI_add _ _) ?_
  refine lv_bipush (v := nI 16) hx hb dRu_lengthOf_11 (by decide) ?_
  refine kc_l (wc := [(qb, .inr (0, [.ref qo, .int (nI bc)])), (qo, .inl (cB, 10242, .inl o))]) (wr := []) hP hD hS hA [0, 1] [] rfl rfl (by decide) (by decide) (by decide) (fun hPc hDc => va_runV (As := [.int (nI ((16 + (80 * k)) + 64)), .int (nI 16)]) (rest := []) ⟨hx, hb, hml, hown, hts⟩ (c_bitsAt l D cJ cB cI cF qb qo bc o B ((16 + (80 * k)) + 64) 16 (lN z) _ (hc) (hbm) (by omega) (by omega) (hf) (lN_small (Nat.lt_of_le_of_lt hz (by decide)) (by omega))) (cwV 2 hts (wsG_k tw_486 (wsG_k tw_465 (wsG_k tw_466 (wsG_k tw_3 (wsG_c tw_467))))) rfl rfl rfl (by decide +kernel) ⟨Nat.le_of_ble_eq_true rfl, Nat.le_of_ble_eq_true rfl⟩) ⟨cf_blind, va_recv hK hPc (ci := 0) (q0 := 0) rfl rfl, cf_pre hPc hK hDc hWd⟩ rfl rfl hl.1 rfl (lv_room (Nat.le_of_ble_eq_true rfl)) dRu_lengthOf_13 ⟨Nat.le_of_ble_eq_true rfl, Nat.le_of_ble_eq_true rfl⟩) (fun r u H locs hw hP hD hS => ?_)
  obtain ⟨rfl, -⟩ := hw
  have hP : va_P D vwCl [(qb, .inr (0, [.ref qo, .int (nI bc)])), (qo, .inl (cB, 10242, .inl o))] H := hP
  have hD : va_D A [(qb, .inr (0, [.ref qo, .int (nI bc)])), (qo, .inl (cB, 10242, .inl o))] := hD
  refine lv_l2i hx hb dRu_lengthOf_16 rfl ?_
  refine tp_i (show ((lN z).toInt32) = (nI z) from lN_i _) ?_
  exact hret (nI z) () _ _ _ _ _ _ ⟨rfl, trivial⟩ (hP.sub [0, 1] rfl) (hD.sub [0, 1] (by decide) rfl) hS (Nat.le_of_ble_eq_true rfl) (Nat.le_of_ble_eq_true rfl) dRu_lengthOf_17

set_option maxHeartbeats 4000000 in
set_option maxRecDepth 100000 in
theorem c_ruR (l : Launch) (D : va_G) (cJ cB cI cF : ClassId) (qf : Nat) (qb : Nat) (qo : Nat) (bc : Nat) (o : Nat → Int32) (B : Nat → Bool) (xs : Nat → Int64) (n : Nat) (i : Nat) (sz : Nat) (hc : oB o bc B) (hbm : bc ≤ 81936) (hn : n ≤ 1024) (hL : lR xs n bc B) (hi1 : i < n) : Met l yRu_read (Cond.code yRu_read cRu_read 6 (some .long) :: wsG) ({ frames := 3, cells := 0, slots := 0, locals := 72 }) (va_Pc [.ref qf, .ref qb, .int (nI i)] (cfPre D (cfT cJ cB cI cF) [(qf, .inr (6, [])), (qb, .inr (0, [.ref qo, .int (nI bc)])), (qo, .inl (cB, 10242, .inl o))] sz)) (va_Ql (fun (r : Int64) (u : Unit) => r = xs i ∧ True) (fun u t => cfPost D ((fun (u : Unit) => [(qf, .inr (6, [])), (qb, .inr (0, [.ref qo, .int (nI bc)])), (qo, .inl (cB, 10242, .inl o))]) u) (va_A [(qf, .inr (6, [])), (qb, .inr (0, [.ref qo, .int (nI bc)])), (qo, .inl (cB, 10242, .inl o))] sz) t) (va_A [(qf, .inr (6, [])), (qb, .inr (0, [.ref qo, .int (nI bc)])), (qo, .inl (cB, 10242, .inl o))] sz)) 0 0 (va_A [(qf, .inr (6, [])), (qb, .inr (0, [.ref qo, .int (nI bc)])), (qo, .inl (cB, 10242, .inl o))] sz) := by
  refine met_l (cc := cRu_read) (maxL := 6) (S := Unit) (D := D) (wO := fun (u : Unit) => [(qf, .inr (6, [])), (qb, .inr (0, [.ref qo, .int (nI bc)])), (qo, .inl (cB, 10242, .inl o))]) (by decide) (Nat.le_of_ble_eq_true rfl) ?_
  intro p e s m below meth c hx hb hml hown hts hlocks hin hWd A hA hsz hP hK hD hS Q hret ls hl
  have hown : s.vm.findClass "ColumnForms$Runs" = some m.cls := hown
  have hl : lv_has ls 6 [(0, .ref qf), (1, .ref qb), (2, .int (nI i))] := hl
  have hP : va_P D vwCl [(qf, .inr (6, [])), (qb, .inr (0, [.ref qo, .int (nI bc)])), (qo, .inl (cB, 10242, .inl o))] s.heap := hP
  obtain ⟨sb, q1, q2, q3, q4, q5, q6⟩ := hL
  obtain ⟨k, hk0⟩ : ∃ z, z = rRn xs n := ⟨_, rfl⟩
  rw [← hk0] at q1 q2 q3 q4 q5 q6
  have hkn : k ≤ n := by rw [hk0]; exact rRn_le n
  refine lv_aload_n hx hb dRu_read_0 rfl (lv_at hl 1 rfl) ?_
  refine kc_i (wc := [(qb, .inr (0, [.ref qo, .int (nI bc)])), (qo, .inl (cB, 10242, .inl o))]) (wr := [(qf, .inr (6, []))]) hP hD hS hA [1, 2] [0] rfl rfl (by decide) (by decide) (by decide) (fun hPc hDc => va_runS (As := [.ref qb]) (rest := []) ⟨hx, hb, hml, hown, hts⟩ (c_ruI l D cJ cB cI cF qb qo bc o B k _ (hc) (hbm) (by omega) (q4) (by omega)) (va_cwS 1 hts (wsG_k tw_483 (wsG_k tw_484 (wsG_k tw_8 (wsG_c tw_485)))) rfl rfl rfl (by decide +kernel) ⟨Nat.le_of_ble_eq_true rfl, Nat.le_of_ble_eq_true rfl⟩) ⟨cf_blind, cf_pre hPc hK hDc hWd⟩ rfl rfl hl.1 rfl (lv_room (Nat.le_of_ble_eq_true rfl)) dRu_read_1 ⟨Nat.le_of_ble_eq_true rfl, Nat.le_of_ble_eq_true rfl⟩) (fun r u H locs hw hP hD hS => ?_)
  obtain ⟨rfl, -⟩ := hw
  have hP : va_P D vwCl [(qf, .inr (6, [])), (qb, .inr (0, [.ref qo, .int (nI bc)])), (qo, .inl (cB, 10242, .inl o))] H := hP
  have hD : va_D A [(qf, .inr (6, [])), (qb, .inr (0, [.ref qo, .int (nI bc)])), (qo, .inl (cB, 10242, .inl o))] := hD
  refine lv_istore_n (lv' := [(3, .int (nI k)), (0, .ref qf), (1, .ref qb), (2, .int (nI i))]) hx hb dRu_read_4 rfl hl (by decide) rfl (fun ls hl => ?_)
  refine lv_iconst (v := nI 0) hx hb dRu_read_5 (by decide) ?_
  refine lv_istore (lv' := [(4, .int (nI 0)), (3, .int (nI k)), (0, .ref qf), (1, .ref qb), (2, .int (nI i))]) hx hb dRu_read_6 hl (by decide) rfl (fun ls hl => ?_)
  refine lv_iconst (v := nI 0) hx hb dRu_read_8 (by decide) ?_
  refine lv_istore (lv' := [(5, .int (nI 0)), (4, .int (nI 0)), (3, .int (nI k)), (0, .ref qf), (1, .ref qb), (2, .int (nI i))]) hx hb dRu_read_9 hl (by decide) rfl (fun ls hl => ?_)
  have lp : ∀ (k_lp : Nat) (m_ : Nat) (bh : Nat), (m_ ≤ k) → (bh = sb m_) → (sb m_ ≤ i) → (k - m_ < k_lp) → ∀ (H : Heap) (locs : List Loc) (ls : Array Slot), va_P D vwCl [(qf, .inr (6, [])), (qb, .inr (0, [.ref qo, .int (nI bc)])), (qo, .inl (cB, 10242, .inl o))] H → va_D A [(qf, .inr (6, [])), (qb, .inr (0, [.ref qo, .int (nI bc)])), (qo, .inl (cB, 10242, .inl o))] → va_S A s.heap H locs → lv_has ls 6 [(0, .ref qf), (1, .ref qb), (2, .int (nI i)), (3, .int (nI k)), (4, .int (nI bh)), (5, .int (nI m_))] → W p l e ({ frames := 3, cells := 0, slots := 0, locals := 72 }) s m ([.ref qf, .ref qb, .int (nI i)].toArray) below meth c H locs (0) (0) Q (F0 m 11 ls []) := by
    intro k_lp
    induction k_lp with
    | zero => intro m_ bh g1 g2 g3 hfu; exact absurd hfu (by omega)
    | succ k_lp ih_lp =>
      intro m_ bh g1 g2 g3 hfu H locs ls hP hD hS hl
      refine lv_iload hx hb dRu_read_11 (lv_at hl 5 rfl) ?_
      refine lv_iload_n hx hb dRu_read_13 rfl (lv_at hl 3 rfl) ?_
      refine lv_icmp_ge (tgt := 47) hx hb dRu_read_14 (by decide) (fun c14 => ?_) (fun c14 => ?_)
      · have c14 : k ≤ m_ := (nI_leI (by omega) (by omega)).mp c14
        have e9 : m_ = k := by omega
        rw [e9, q2] at g3
        exact absurd g3 (by omega)
      · have c14 : ¬ k ≤ m_ := fun h => c14 ((nI_leI (by omega) (by omega)).mpr h)
        have hmk : m_ < k := by omega
        have hu1 := q1.2.1 m_ hmk
        have hu2 := rDc_mono q1 (a := m_ + 1) k (by omega) (Nat.le_refl k)
        refine lv_iload hx hb dRu_read_17 (lv_at hl 4 rfl) ?_
        refine lv_aload_n hx hb dRu_read_19 rfl (lv_at hl 1 rfl) ?_
        refine lv_iload hx hb dRu_read_20 (lv_at hl 5 rfl) ?_
        refine kc_i (wc := [(qb, .inr (0, [.ref qo, .int (nI bc)])), (qo, .inl (cB, 10242, .inl o))]) (wr := [(qf, .inr (6, []))]) hP hD hS hA [1, 2] [0] rfl rfl (by decide) (by decide) (by decide) (fun hPc hDc => va_runS (As := [.ref qb, .int (nI m_)]) (rest := [.int (nI bh)]) ⟨hx, hb, hml, hown, hts⟩ (c_ruN l D cJ cB cI cF qb qo bc o B m_ (sb (m_ + 1) - sb m_) _ (hc) (hbm) (by omega) (q6 m_ hmk) (by omega)) (va_cwS 2 hts (wsG_k tw_487 (wsG_k tw_488 (wsG_k tw_8 (wsG_c tw_489)))) rfl rfl rfl (by decide +kernel) ⟨Nat.le_of_ble_eq_true rfl, Nat.le_of_ble_eq_true rfl⟩) ⟨cf_blind, cf_pre hPc hK hDc hWd⟩ rfl rfl hl.1 rfl (lv_room (Nat.le_of_ble_eq_true rfl)) dRu_read_22 ⟨Nat.le_of_ble_eq_true rfl, Nat.le_of_ble_eq_true rfl⟩) (fun r u H locs hw hP hD hS => ?_)
        obtain ⟨rfl, -⟩ := hw
        have hP : va_P D vwCl [(qf, .inr (6, [])), (qb, .inr (0, [.ref qo, .int (nI bc)])), (qo, .inl (cB, 10242, .inl o))] H := hP
        have hD : va_D A [(qf, .inr (6, [])), (qb, .inr (0, [.ref qo, .int (nI bc)])), (qo, .inl (cB, 10242, .inl o))] := hD
        refine lv_iadd hx hb dRu_read_25 ?_
        refine tp_i (show ((nI bh) + (nI (sb (m_ + 1) - sb m_))) = (nI (bh + (sb (m_ + 1) - sb m_))) from nI_add _ _) ?_
        refine lv_istore (lv' := [(4, .int (nI (bh + (sb (m_ + 1) - sb m_)))), (0, .ref qf), (1, .ref qb), (2, .int (nI i)), (3, .int (nI k)), (5, .int (nI m_))]) hx hb dRu_read_26 hl (by decide) rfl (fun ls hl => ?_)
        refine lv_iload_n hx hb dRu_read_28 rfl (lv_at hl 3 rfl) ?_
        refine lv_iload hx hb dRu_read_29 (lv_at hl 0 rfl) ?_
        refine lv_icmp_ge (tgt := 41) hx hb dRu_read_31 (by decide) (fun c31 => ?_) (fun c31 => ?_)
        · have c31 : (bh + (sb (m_ + 1) - sb m_)) ≤ i := (nI_leI (by omega) (by omega)).mp c31
          refine lv_iinc (v := nI (m_ + 1)) (lv' := [(5, .int (nI (m_ + 1))), (4, .int (nI (bh + (sb (m_ + 1) - sb m_)))), (0, .ref qf), (1, .ref qb), (2, .int (nI i)), (3, .int (nI k))]) hx hb dRu_read_41 hl (k := 5) rfl (by rw [show (Int32.ofInt 1) = nI 1 from by decide]; exact nI_add _ _) (by decide) rfl (fun ls hl => ?_)
          refine lv_goto (tgt := 11) hx hb dRu_read_44 (by decide) ?_
          exact ih_lp (m_ + 1) (bh + (sb (m_ + 1) - sb m_)) (by omega) (by omega) (by omega) (by omega) _ _ _ (hP.sub [0, 1, 2] rfl) (hD.sub [0, 1, 2] (by decide) rfl) hS (lv_sub hl [2, 3, 4, 5, 1, 0] rfl)
        · have c31 : ¬ (bh + (sb (m_ + 1) - sb m_)) ≤ i := fun h => c31 ((nI_leI (by omega) (by omega)).mpr h)
          refine lv_aload_n hx hb dRu_read_34 rfl (lv_at hl 2 rfl) ?_
          refine lv_iload hx hb dRu_read_35 (lv_at hl 5 rfl) ?_
          refine kc_l (wc := [(qb, .inr (0, [.ref qo, .int (nI bc)])), (qo, .inl (cB, 10242, .inl o))]) (wr := [(qf, .inr (6, []))]) hP hD hS hA [1, 2] [0] rfl rfl (by decide) (by decide) (by decide) (fun hPc hDc => va_runS (As := [.ref qb, .int (nI m_)]) (rest := []) ⟨hx, hb, hml, hown, hts⟩ (c_ruC l D cJ cB cI cF qb qo bc o B m_ (xs (sb m_)) _ (hc) (hbm) (by omega) (q5 m_ hmk)) (va_cwS 2 hts (wsG_k tw_490 (wsG_k tw_491 (wsG_k tw_8 (wsG_c tw_492)))) rfl rfl rfl (by decide +kernel) ⟨Nat.le_of_ble_eq_true rfl, Nat.le_of_ble_eq_true rfl⟩) ⟨cf_blind, cf_pre hPc hK hDc hWd⟩ rfl rfl hl.1 rfl (lv_room (Nat.le_of_ble_eq_true rfl)) dRu_read_37 ⟨Nat.le_of_ble_eq_true rfl, Nat.le_of_ble_eq_true rfl⟩) (fun r u H locs hw hP hD hS => ?_)
          obtain ⟨rfl, -⟩ := hw
          have hP : va_P D vwCl [(qf, .inr (6, [])), (qb, .inr (0, [.ref qo, .int (nI bc)])), (qo, .inl (cB, 10242, .inl o))] H := hP
          have hD : va_D A [(qf, .inr (6, [])), (qb, .inr (0, [.ref qo, .int (nI bc)])), (qo, .inl (cB, 10242, .inl o))] := hD
          exact hret (xs (sb m_)) () _ _ _ _ _ _ ⟨(q1.2.2.1 m_ hmk i (by omega) (by omega)).symm, trivial⟩ (hP.sub [0, 1, 2] rfl) (hD.sub [0, 1, 2] (by decide) rfl) hS (Nat.le_of_ble_eq_true rfl) (Nat.le_of_ble_eq_true rfl) dRu_read_40
  exact lp (k - 0 + 1) 0 0 (Nat.zero_le k) (q1.1.symm) (by rw [q1.1]; omega) (by omega) _ _ _ (hP.sub [0, 1, 2] rfl) (hD.sub [0, 1, 2] (by decide) rfl) hS (lv_sub hl [3, 4, 5, 2, 1, 0] rfl)

set_option maxHeartbeats 4000000 in
set_option maxRecDepth 100000 in
theorem c_ruA (l : Launch) (D : va_G) (cJ cB cI cF : ClassId) (qf : Nat) (qb : Nat) (qo : Nat) (bc : Nat) (o : Nat → Int32) (B : Nat → Bool) (xs : Nat → Int64) (n : Nat) (qq : Nat) (ht_ : Int32) (tt : Int64) (kd : Nat) (low : Int64) (high : Int64) (sz : Nat) (hc : oB o bc B) (hbm : bc ≤ 81936) (hn : n ≤ 1024) (hn0 : 0 < n) (hL : lR xs n bc B) (hk : kd < 5) : Met l yRu_askAll (Cond.code yRu_askAll cRu_askAll 6 none :: wsG) ({ frames := 3, cells := 0, slots := 0, locals := 72 }) (va_Pc [.ref qf, .ref qb, .int (nI n), .ref qq] (cfPre D (cfT cJ cB cI cF) [(qf, .inr (6, [])), (qb, .inr (0, [.ref qo, .int (nI bc)])), (qo, .inl (cB, 10242, .inl o)), (qq, .inr (4, [.int ht_, .long tt, .int (nI kd), .long low, .long high]))] sz)) (va_Qv (fun (u : Int32 × Int64) => (u.1 = ht_ + nI (nC (qF kd low high) xs n)) ∧ (u.2 = tt + nS (qF kd low high) xs n) ∧ True) (fun u t => cfPost D ((fun (u : Int32 × Int64) => [(qf, .inr (6, [])), (qb, .inr (0, [.ref qo, .int (nI bc)])), (qo, .inl (cB, 10242, .inl o)), (qq, .inr (4, [.int u.1, .long u.2, .int (nI kd), .long low, .long high]))]) u) (va_A [(qf, .inr (6, [])), (qb, .inr (0, [.ref qo, .int (nI bc)])), (qo, .inl (cB, 10242, .inl o)), (qq, .inr (4, [.int ht_, .long tt, .int (nI kd), .long low, .long high]))] sz) t) (va_A [(qf, .inr (6, [])), (qb, .inr (0, [.ref qo, .int (nI bc)])), (qo, .inl (cB, 10242, .inl o)), (qq, .inr (4, [.int ht_, .long tt, .int (nI kd), .long low, .long high]))] sz)) 0 0 (va_A [(qf, .inr (6, [])), (qb, .inr (0, [.ref qo, .int (nI bc)])), (qo, .inl (cB, 10242, .inl o)), (qq, .inr (4, [.int ht_, .long tt, .int (nI kd), .long low, .long high]))] sz) := by
  refine met_v (cc := cRu_askAll) (maxL := 6) (S := Int32 × Int64) (D := D) (wO := fun (u : Int32 × Int64) => [(qf, .inr (6, [])), (qb, .inr (0, [.ref qo, .int (nI bc)])), (qo, .inl (cB, 10242, .inl o)), (qq, .inr (4, [.int u.1, .long u.2, .int (nI kd), .long low, .long high]))]) (by decide) (Nat.le_of_ble_eq_true rfl) ?_
  intro p e s m below meth c hx hb hml hown hts hlocks hin hWd A hA hsz hP hK hD hS Q hret ls hl
  have hown : s.vm.findClass "ColumnForms$Runs" = some m.cls := hown
  have hl : lv_has ls 6 [(0, .ref qf), (1, .ref qb), (2, .int (nI n)), (3, .ref qq)] := hl
  have hP : va_P D vwCl [(qf, .inr (6, [])), (qb, .inr (0, [.ref qo, .int (nI bc)])), (qo, .inl (cB, 10242, .inl o)), (qq, .inr (4, [.int ht_, .long tt, .int (nI kd), .long low, .long high]))] s.heap := hP
  obtain ⟨sb, q1, q2, q3, q4, q5, q6⟩ := hL
  obtain ⟨k, hk0⟩ : ∃ z, z = rRn xs n := ⟨_, rfl⟩
  rw [← hk0] at q1 q2 q3 q4 q5 q6
  have hkn : k ≤ n := by rw [hk0]; exact rRn_le n
  refine lv_aload_n hx hb dRu_askAll_0 rfl (lv_at hl 1 rfl) ?_
  refine kc_i (wc := [(qb, .inr (0, [.ref qo, .int (nI bc)])), (qo, .inl (cB, 10242, .inl o))]) (wr := [(qf, .inr (6, [])), (qq, .inr (4, [.int ht_, .long tt, .int (nI kd), .long low, .long high]))]) hP hD hS hA [1, 2] [0, 3] rfl rfl (by decide) (by decide) (by decide) (fun hPc hDc => va_runS (As := [.ref qb]) (rest := []) ⟨hx, hb, hml, hown, hts⟩ (c_ruI l D cJ cB cI cF qb qo bc o B k _ (hc) (hbm) (by omega) (q4) (by omega)) (va_cwS 1 hts (wsG_k tw_483 (wsG_k tw_484 (wsG_k tw_8 (wsG_c tw_485)))) rfl rfl rfl (by decide +kernel) ⟨Nat.le_of_ble_eq_true rfl, Nat.le_of_ble_eq_true rfl⟩) ⟨cf_blind, cf_pre hPc hK hDc hWd⟩ rfl rfl hl.1 rfl (lv_room (Nat.le_of_ble_eq_true rfl)) dRu_askAll_1 ⟨Nat.le_of_ble_eq_true rfl, Nat.le_of_ble_eq_true rfl⟩) (fun r u H locs hw hP hD hS => ?_)
  obtain ⟨rfl, -⟩ := hw
  have hP : va_P D vwCl [(qf, .inr (6, [])), (qq, .inr (4, [.int ht_, .long tt, .int (nI kd), .long low, .long high])), (qb, .inr (0, [.ref qo, .int (nI bc)])), (qo, .inl (cB, 10242, .inl o))] H := hP
  have hD : va_D A [(qf, .inr (6, [])), (qq, .inr (4, [.int ht_, .long tt, .int (nI kd), .long low, .long high])), (qb, .inr (0, [.ref qo, .int (nI bc)])), (qo, .inl (cB, 10242, .inl o))] := hD
  refine lv_istore (lv' := [(4, .int (nI k)), (0, .ref qf), (1, .ref qb), (2, .int (nI n)), (3, .ref qq)]) hx hb dRu_askAll_4 hl (by decide) rfl (fun ls hl => ?_)
  refine lv_iconst (v := nI 0) hx hb dRu_askAll_6 (by decide) ?_
  refine lv_istore (lv' := [(5, .int (nI 0)), (4, .int (nI k)), (0, .ref qf), (1, .ref qb), (2, .int (nI n)), (3, .ref qq)]) hx hb dRu_askAll_7 hl (by decide) rfl (fun ls hl => ?_)
  have lp : ∀ (k_lp : Nat) (m_ : Nat) (h1 : Int32) (t1 : Int64), (m_ ≤ k) → (h1 = ht_ + nI (nC (qF kd low high) xs (sb m_))) → (t1 = tt + nS (qF kd low high) xs (sb m_)) → (k - m_ < k_lp) → ∀ (H : Heap) (locs : List Loc) (ls : Array Slot), va_P D vwCl [(qf, .inr (6, [])), (qb, .inr (0, [.ref qo, .int (nI bc)])), (qo, .inl (cB, 10242, .inl o)), (qq, .inr (4, [.int h1, .long t1, .int (nI kd), .long low, .long high]))] H → va_D A [(qf, .inr (6, [])), (qb, .inr (0, [.ref qo, .int (nI bc)])), (qo, .inl (cB, 10242, .inl o)), (qq, .inr (4, [.int h1, .long t1, .int (nI kd), .long low, .long high]))] → va_S A s.heap H locs → lv_has ls 6 [(0, .ref qf), (1, .ref qb), (2, .int (nI n)), (3, .ref qq), (4, .int (nI k)), (5, .int (nI m_))] → W p l e ({ frames := 3, cells := 0, slots := 0, locals := 72 }) s m ([.ref qf, .ref qb, .int (nI n), .ref qq].toArray) below meth c H locs (0) (0) Q (F0 m 9 ls []) := by
    intro k_lp
    induction k_lp with
    | zero => intro m_ h1 t1 g1 g2 g3 hfu; exact absurd hfu (by omega)
    | succ k_lp ih_lp =>
      intro m_ h1 t1 g1 g2 g3 hfu H locs ls hP hD hS hl
      refine lv_iload hx hb dRu_askAll_9 (lv_at hl 5 rfl) ?_
      refine lv_iload hx hb dRu_askAll_11 (lv_at hl 4 rfl) ?_
      refine lv_icmp_ge (tgt := 38) hx hb dRu_askAll_13 (by decide) (fun c13 => ?_) (fun c13 => ?_)
      · have c13 : k ≤ m_ := (nI_leI (by omega) (by omega)).mp c13
        exact hret (h1, t1) _ _ _ _ _ _ ⟨by show h1 = _; rw [g2, show m_ = k by omega, q2], by show t1 = _; rw [g3, show m_ = k by omega, q2], trivial⟩ (hP.sub [0, 1, 2, 3] rfl) (hD.sub [0, 1, 2, 3] (by decide) rfl) hS (Nat.le_of_ble_eq_true rfl) (Nat.le_of_ble_eq_true rfl) dRu_askAll_38
      · have c13 : ¬ k ≤ m_ := fun h => c13 ((nI_leI (by omega) (by omega)).mpr h)
        have hmk : m_ < k := by omega
        have hu1 := q1.2.1 m_ hmk
        have hu2 := rDc_mono q1 (a := m_ + 1) k (by omega) (Nat.le_refl k)
        refine lv_aload_n hx hb dRu_askAll_16 rfl (lv_at hl 3 rfl) ?_
        refine lv_aload_n hx hb dRu_askAll_17 rfl (lv_at hl 1 rfl) ?_
        refine lv_iload hx hb dRu_askAll_18 (lv_at hl 5 rfl) ?_
        refine kc_l (wc := [(qb, .inr (0, [.ref qo, .int (nI bc)])), (qo, .inl (cB, 10242, .inl o))]) (wr := [(qf, .inr (6, [])), (qq, .inr (4, [.int h1, .long t1, .int (nI kd), .long low, .long high]))]) hP hD hS hA [1, 2] [0, 3] rfl rfl (by decide) (by decide) (by decide) (fun hPc hDc => va_runS (As := [.ref qb, .int (nI m_)]) (rest := [.ref qq]) ⟨hx, hb, hml, hown, hts⟩ (c_ruC l D cJ cB cI cF qb qo bc o B m_ (xs (sb m_)) _ (hc) (hbm) (by omega) (q5 m_ hmk)) (va_cwS 2 hts (wsG_k tw_490 (wsG_k tw_491 (wsG_k tw_8 (wsG_c tw_492)))) rfl rfl rfl (by decide +kernel) ⟨Nat.le_of_ble_eq_true rfl, Nat.le_of_ble_eq_true rfl⟩) ⟨cf_blind, cf_pre hPc hK hDc hWd⟩ rfl rfl hl.1 rfl (lv_room (Nat.le_of_ble_eq_true rfl)) dRu_askAll_20 ⟨Nat.le_of_ble_eq_true rfl, Nat.le_of_ble_eq_true rfl⟩) (fun r u H locs hw hP hD hS => ?_)
        obtain ⟨rfl, -⟩ := hw
        have hP : va_P D vwCl [(qf, .inr (6, [])), (qq, .inr (4, [.int h1, .long t1, .int (nI kd), .long low, .long high])), (qb, .inr (0, [.ref qo, .int (nI bc)])), (qo, .inl (cB, 10242, .inl o))] H := hP
        have hD : va_D A [(qf, .inr (6, [])), (qq, .inr (4, [.int h1, .long t1, .int (nI kd), .long low, .long high])), (qb, .inr (0, [.ref qo, .int (nI bc)])), (qo, .inl (cB, 10242, .inl o))] := hD
        refine lv_aload_n hx hb dRu_askAll_23 rfl (lv_at hl 1 rfl) ?_
        refine lv_iload hx hb dRu_askAll_24 (lv_at hl 5 rfl) ?_
        refine kc_i (wc := [(qb, .inr (0, [.ref qo, .int (nI bc)])), (qo, .inl (cB, 10242, .inl o))]) (wr := [(qf, .inr (6, [])), (qq, .inr (4, [.int h1, .long t1, .int (nI kd), .long low, .long high]))]) hP hD hS hA [2, 3] [0, 1] rfl rfl (by decide) (by decide) (by decide) (fun hPc hDc => va_runS (As := [.ref qb, .int (nI m_)]) (rest := [.long (xs (sb m_)), .ref qq]) ⟨hx, hb, hml, hown, hts⟩ (c_ruN l D cJ cB cI cF qb qo bc o B m_ (sb (m_ + 1) - sb m_) _ (hc) (hbm) (by omega) (q6 m_ hmk) (by omega)) (va_cwS 2 hts (wsG_k tw_487 (wsG_k tw_488 (wsG_k tw_8 (wsG_c tw_489)))) rfl rfl rfl (by decide +kernel) ⟨Nat.le_of_ble_eq_true rfl, Nat.le_of_ble_eq_true rfl⟩) ⟨cf_blind, cf_pre hPc hK hDc hWd⟩ rfl rfl hl.1 rfl (lv_room (Nat.le_of_ble_eq_true rfl)) dRu_askAll_26 ⟨Nat.le_of_ble_eq_true rfl, Nat.le_of_ble_eq_true rfl⟩) (fun r u H locs hw hP hD hS => ?_)
        obtain ⟨rfl, -⟩ := hw
        have hP : va_P D vwCl [(qf, .inr (6, [])), (qq, .inr (4, [.int h1, .long t1, .int (nI kd), .long low, .long high])), (qb, .inr (0, [.ref qo, .int (nI bc)])), (qo, .inl (cB, 10242, .inl o))] H := hP
        have hD : va_D A [(qf, .inr (6, [])), (qq, .inr (4, [.int h1, .long t1, .int (nI kd), .long low, .long high])), (qb, .inr (0, [.ref qo, .int (nI bc)])), (qo, .inl (cB, 10242, .inl o))] := hD
        refine kc_v (wc := [(qq, .inr (4, [.int h1, .long t1, .int (nI kd), .long low, .long high]))]) (wr := [(qf, .inr (6, [])), (qb, .inr (0, [.ref qo, .int (nI bc)])), (qo, .inl (cB, 10242, .inl o))]) hP hD hS hA [1] [0, 2, 3] rfl rfl (by decide) (by decide) (by decide) (fun hPc hDc => va_runV (As := [.long (xs (sb m_)), .int (nI (sb (m_ + 1) - sb m_))]) (rest := []) ⟨hx, hb, hml, hown, hts⟩ (c_ask l D cJ cB cI cF qq h1 t1 kd low high (xs (sb m_)) (nI (sb (m_ + 1) - sb m_)) _ (hk)) (cwV 2 hts (wsG_k tw_571 (wsG_k tw_552 (wsG_k tw_553 (wsG_k tw_20 (wsG_c tw_554))))) rfl rfl rfl (by decide +kernel) ⟨Nat.le_of_ble_eq_true rfl, Nat.le_of_ble_eq_true rfl⟩) ⟨cf_blind, va_recv hK hPc (ci := 4) (q0 := 0) rfl rfl, cf_pre hPc hK hDc hWd⟩ rfl rfl hl.1 rfl (lv_room (Nat.le_of_ble_eq_true rfl)) dRu_askAll_29 ⟨Nat.le_of_ble_eq_true rfl, Nat.le_of_ble_eq_true rfl⟩) (fun u H locs hw hP hD hS => ?_)
        obtain ⟨h2_1, t2_2⟩ := u
        obtain ⟨a1, a2, -⟩ := hw
        have a1 : h2_1 = h1 + (if qF kd low high (xs (sb m_)) then (nI (sb (m_ + 1) - sb m_)) else 0) := a1
        have a2 : t2_2 = t1 + (if qF kd low high (xs (sb m_)) then (xs (sb m_)) * (nI (sb (m_ + 1) - sb m_)).toInt64 else 0) := a2
        have hP : va_P D vwCl [(qf, .inr (6, [])), (qb, .inr (0, [.ref qo, .int (nI bc)])), (qo, .inl (cB, 10242, .inl o)), (qq, .inr (4, [.int h2_1, .long t2_2, .int (nI kd), .long low, .long high]))] H := hP
        have hD : va_D A [(qf, .inr (6, [])), (qb, .inr (0, [.ref qo, .int (nI bc)])), (qo, .inl (cB, 10242, .inl o)), (qq, .inr (4, [.int h2_1, .long t2_2, .int (nI kd), .long low, .long high]))] := hD
        refine lv_iinc (v := nI (m_ + 1)) (lv' := [(5, .int (nI (m_ + 1))), (0, .ref qf), (1, .ref qb), (2, .int (nI n)), (3, .ref qq), (4, .int (nI k))]) hx hb dRu_askAll_32 hl (k := 5) rfl (by rw [show (Int32.ofInt 1) = nI 1 from by decide]; exact nI_add _ _) (by decide) rfl (fun ls hl => ?_)
        refine lv_goto (tgt := 9) hx hb dRu_askAll_35 (by decide) ?_
        exact ih_lp (m_ + 1) h2_1 t2_2 (by omega) (askR_c q1 hmk g2 a1) (askR_s q1 hmk (by omega) g3 a2) (by omega) _ _ _ (hP.sub [0, 1, 2, 3] rfl) (hD.sub [0, 1, 2, 3] (by decide) rfl) hS (lv_sub hl [1, 2, 3, 4, 5, 0] rfl)
  exact lp (k - 0 + 1) 0 ht_ tt (Nat.zero_le k) (by rw [q1.1]; exact (Int32.add_zero _).symm) (by rw [q1.1]; exact (Int64.add_zero _).symm) (by omega) _ _ _ (hP.sub [0, 2, 3, 1] rfl) (hD.sub [0, 2, 3, 1] (by decide) rfl) hS (lv_sub hl [2, 3, 4, 5, 1, 0] rfl)
end
