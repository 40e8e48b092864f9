section
-- ===== PART A: goes FIRST, ahead of the names: the tables' words, and 'selects' of the private methods out of them =====
/-- a private method of a class that the tables say can be made, by its rows of tables_1 -/
def lw_okq (q : MethodName × Nat) : Prop := (q.1.cls ≠ "java/lang/invoke/MethodHandle" ∧ q.1.cls ≠ "java/lang/invoke/VarHandle") ∧ Cond.instantiable q.1.cls q.2 ∈ tables_1 ∧ Cond.privateMethod q.1 ∈ tables_1 ∧ Cond.instanceMethod q.1 ∈ tables_1
theorem lw_p0 : lw_okq (⟨"DeltaViews", "make", "(LDeltaViews$Rule;)I"⟩, 7) := ⟨⟨by decide +kernel, by decide +kernel⟩, List.mem_of_getElem? (i := 16) (by decide +kernel), List.mem_of_getElem? (i := 112) (by decide +kernel), List.mem_of_getElem? (i := 113) (by decide +kernel)⟩
theorem lw_p1 : lw_okq (⟨"DeltaViews", "fillNode", "(LDeltaViews$Rule;[LDeltaViews$Rows;I)Z"⟩, 7) := ⟨⟨by decide +kernel, by decide +kernel⟩, List.mem_of_getElem? (i := 16) (by decide +kernel), List.mem_of_getElem? (i := 116) (by decide +kernel), List.mem_of_getElem? (i := 117) (by decide +kernel)⟩
theorem lw_p2 : lw_okq (⟨"DeltaViews$Rows", "placeOf", "(III)I"⟩, 3) := ⟨⟨by decide +kernel, by decide +kernel⟩, List.mem_of_getElem? (i := 28) (by decide +kernel), List.mem_of_getElem? (i := 165) (by decide +kernel), List.mem_of_getElem? (i := 166) (by decide +kernel)⟩
theorem lw_p3 : lw_okq (⟨"DeltaViews$Rows", "compareAt", "(IIII)I"⟩, 3) := ⟨⟨by decide +kernel, by decide +kernel⟩, List.mem_of_getElem? (i := 28) (by decide +kernel), List.mem_of_getElem? (i := 169) (by decide +kernel), List.mem_of_getElem? (i := 170) (by decide +kernel)⟩
theorem lw_p4 : lw_okq (⟨"DeltaViews$Rows", "isAt", "(IIII)Z"⟩, 3) := ⟨⟨by decide +kernel, by decide +kernel⟩, List.mem_of_getElem? (i := 28) (by decide +kernel), List.mem_of_getElem? (i := 173) (by decide +kernel), List.mem_of_getElem? (i := 174) (by decide +kernel)⟩
theorem lw_p5 : lw_okq (⟨"DeltaViews$Rows", "insertAt", "(IIIIJ)V"⟩, 3) := ⟨⟨by decide +kernel, by decide +kernel⟩, List.mem_of_getElem? (i := 28) (by decide +kernel), List.mem_of_getElem? (i := 177) (by decide +kernel), List.mem_of_getElem? (i := 178) (by decide +kernel)⟩
theorem lw_p6 : lw_okq (⟨"DeltaViews$FilterRule", "lets", "(I)Z"⟩, 4) := ⟨⟨by decide +kernel, by decide +kernel⟩, List.mem_of_getElem? (i := 200) (by decide +kernel), List.mem_of_getElem? (i := 198) (by decide +kernel), List.mem_of_getElem? (i := 199) (by decide +kernel)⟩
theorem lw_p7 : lw_okq (⟨"DeltaViews$GroupRule", "isFirstOfItsKey", "(LDeltaViews$Rows;I)Z"⟩, 4) := ⟨⟨by decide +kernel, by decide +kernel⟩, List.mem_of_getElem? (i := 215) (by decide +kernel), List.mem_of_getElem? (i := 213) (by decide +kernel), List.mem_of_getElem? (i := 214) (by decide +kernel)⟩
theorem lw_p8 : lw_okq (⟨"DeltaViews$GroupRule", "isWith", "(LDeltaViews$Rows;II)Z"⟩, 4) := ⟨⟨by decide +kernel, by decide +kernel⟩, List.mem_of_getElem? (i := 215) (by decide +kernel), List.mem_of_getElem? (i := 219) (by decide +kernel), List.mem_of_getElem? (i := 220) (by decide +kernel)⟩
theorem lw_p9 : lw_okq (⟨"DeltaViews$GroupRule", "valueFrom", "(LDeltaViews$Rows;I)I"⟩, 4) := ⟨⟨by decide +kernel, by decide +kernel⟩, List.mem_of_getElem? (i := 215) (by decide +kernel), List.mem_of_getElem? (i := 223) (by decide +kernel), List.mem_of_getElem? (i := 224) (by decide +kernel)⟩
theorem lw_p10 : lw_okq (⟨"DeltaViews$GroupRule", "startValue", "(LDeltaViews$Rows;I)I"⟩, 4) := ⟨⟨by decide +kernel, by decide +kernel⟩, List.mem_of_getElem? (i := 215) (by decide +kernel), List.mem_of_getElem? (i := 227) (by decide +kernel), List.mem_of_getElem? (i := 228) (by decide +kernel)⟩
theorem lw_p11 : lw_okq (⟨"DeltaViews$GroupRule", "joined", "(II)I"⟩, 4) := ⟨⟨by decide +kernel, by decide +kernel⟩, List.mem_of_getElem? (i := 215) (by decide +kernel), List.mem_of_getElem? (i := 231) (by decide +kernel), List.mem_of_getElem? (i := 232) (by decide +kernel)⟩
theorem lw_p12 : lw_okq (⟨"DeltaViews", "settleWork", "(LDeltaViews$Rows;)Z"⟩, 7) := ⟨⟨by decide +kernel, by decide +kernel⟩, List.mem_of_getElem? (i := 16) (by decide +kernel), List.mem_of_getElem? (i := 276) (by decide +kernel), List.mem_of_getElem? (i := 277) (by decide +kernel)⟩
theorem lw_p13 : lw_okq (⟨"DeltaViews", "isNode", "(I)Z"⟩, 7) := ⟨⟨by decide +kernel, by decide +kernel⟩, List.mem_of_getElem? (i := 16) (by decide +kernel), List.mem_of_getElem? (i := 295) (by decide +kernel), List.mem_of_getElem? (i := 296) (by decide +kernel)⟩
theorem lw_p14 : lw_okq (⟨"DeltaViews", "wouldFallBelowZero", "()Z"⟩, 7) := ⟨⟨by decide +kernel, by decide +kernel⟩, List.mem_of_getElem? (i := 16) (by decide +kernel), List.mem_of_getElem? (i := 441) (by decide +kernel), List.mem_of_getElem? (i := 442) (by decide +kernel)⟩
theorem lw_p15 : lw_okq (⟨"DeltaViews", "gatherTable", "(I)V"⟩, 7) := ⟨⟨by decide +kernel, by decide +kernel⟩, List.mem_of_getElem? (i := 16) (by decide +kernel), List.mem_of_getElem? (i := 445) (by decide +kernel), List.mem_of_getElem? (i := 446) (by decide +kernel)⟩
def lw_privs_1 : List (MethodName × Nat) := [(⟨"DeltaViews", "make", "(LDeltaViews$Rule;)I"⟩, 7), (⟨"DeltaViews", "fillNode", "(LDeltaViews$Rule;[LDeltaViews$Rows;I)Z"⟩, 7), (⟨"DeltaViews$Rows", "placeOf", "(III)I"⟩, 3), (⟨"DeltaViews$Rows", "compareAt", "(IIII)I"⟩, 3), (⟨"DeltaViews$Rows", "isAt", "(IIII)Z"⟩, 3), (⟨"DeltaViews$Rows", "insertAt", "(IIIIJ)V"⟩, 3), (⟨"DeltaViews$FilterRule", "lets", "(I)Z"⟩, 4), (⟨"DeltaViews$GroupRule", "isFirstOfItsKey", "(LDeltaViews$Rows;I)Z"⟩, 4), (⟨"DeltaViews$GroupRule", "isWith", "(LDeltaViews$Rows;II)Z"⟩, 4), (⟨"DeltaViews$GroupRule", "valueFrom", "(LDeltaViews$Rows;I)I"⟩, 4), (⟨"DeltaViews$GroupRule", "startValue", "(LDeltaViews$Rows;I)I"⟩, 4), (⟨"DeltaViews$GroupRule", "joined", "(II)I"⟩, 4), (⟨"DeltaViews", "settleWork", "(LDeltaViews$Rows;)Z"⟩, 7), (⟨"DeltaViews", "isNode", "(I)Z"⟩, 7), (⟨"DeltaViews", "wouldFallBelowZero", "()Z"⟩, 7), (⟨"DeltaViews", "gatherTable", "(I)V"⟩, 7)]
theorem lw_r1 : ∀ q ∈ lw_privs_1, lw_okq q := List.forall_mem_cons.mpr ⟨lw_p0, List.forall_mem_cons.mpr ⟨lw_p1, List.forall_mem_cons.mpr ⟨lw_p2, List.forall_mem_cons.mpr ⟨lw_p3, List.forall_mem_cons.mpr ⟨lw_p4, List.forall_mem_cons.mpr ⟨lw_p5, List.forall_mem_cons.mpr ⟨lw_p6, List.forall_mem_cons.mpr ⟨lw_p7, List.forall_mem_cons.mpr ⟨lw_p8, List.forall_mem_cons.mpr ⟨lw_p9, List.forall_mem_cons.mpr ⟨lw_p10, List.forall_mem_cons.mpr ⟨lw_p11, List.forall_mem_cons.mpr ⟨lw_p12, List.forall_mem_cons.mpr ⟨lw_p13, List.forall_mem_cons.mpr ⟨lw_p14, List.forall_mem_cons.mpr ⟨lw_p15, fun _ h => absurd h List.not_mem_nil⟩⟩⟩⟩⟩⟩⟩⟩⟩⟩⟩⟩⟩⟩⟩⟩
theorem lw_p16 : lw_okq (⟨"DeltaViews", "fillNextTables", "()Z"⟩, 7) := ⟨⟨by decide +kernel, by decide +kernel⟩, List.mem_of_getElem? (i := 16) (by decide +kernel), List.mem_of_getElem? (i := 458) (by decide +kernel), List.mem_of_getElem? (i := 459) (by decide +kernel)⟩
theorem lw_p17 : lw_okq (⟨"DeltaViews", "noteChangesSince", "([LDeltaViews$Rows;)I"⟩, 7) := ⟨⟨by decide +kernel, by decide +kernel⟩, List.mem_of_getElem? (i := 16) (by decide +kernel), List.mem_of_getElem? (i := 466) (by decide +kernel), List.mem_of_getElem? (i := 467) (by decide +kernel)⟩
theorem lw_p18 : lw_okq (⟨"DeltaViews", "rowsOf", "(I)LDeltaViews$Rows;"⟩, 7) := ⟨⟨by decide +kernel, by decide +kernel⟩, List.mem_of_getElem? (i := 16) (by decide +kernel), List.mem_of_getElem? (i := 486) (by decide +kernel), List.mem_of_getElem? (i := 487) (by decide +kernel)⟩
theorem lw_p19 : lw_okq (⟨"DeltaViewsModel", "out", "(II)Z"⟩, 20) := ⟨⟨by decide +kernel, by decide +kernel⟩, List.mem_of_getElem? (i := 530) (by decide +kernel), List.mem_of_getElem? (i := 601) (by decide +kernel), List.mem_of_getElem? (i := 602) (by decide +kernel)⟩
theorem lw_p20 : lw_okq (⟨"DeltaViewsModel", "make", "(IIIIII)I"⟩, 20) := ⟨⟨by decide +kernel, by decide +kernel⟩, List.mem_of_getElem? (i := 530) (by decide +kernel), List.mem_of_getElem? (i := 605) (by decide +kernel), List.mem_of_getElem? (i := 606) (by decide +kernel)⟩
theorem lw_p21 : lw_okq (⟨"DeltaViewsModel", "evaluate", "(II)Z"⟩, 20) := ⟨⟨by decide +kernel, by decide +kernel⟩, List.mem_of_getElem? (i := 530) (by decide +kernel), List.mem_of_getElem? (i := 609) (by decide +kernel), List.mem_of_getElem? (i := 610) (by decide +kernel)⟩
theorem lw_p22 : lw_okq (⟨"DeltaViewsModel", "joinOne", "(III)V"⟩, 20) := ⟨⟨by decide +kernel, by decide +kernel⟩, List.mem_of_getElem? (i := 530) (by decide +kernel), List.mem_of_getElem? (i := 613) (by decide +kernel), List.mem_of_getElem? (i := 614) (by decide +kernel)⟩
theorem lw_p23 : lw_okq (⟨"DeltaViewsModel", "column", "(II)I"⟩, 20) := ⟨⟨by decide +kernel, by decide +kernel⟩, List.mem_of_getElem? (i := 530) (by decide +kernel), List.mem_of_getElem? (i := 617) (by decide +kernel), List.mem_of_getElem? (i := 618) (by decide +kernel)⟩
theorem lw_p24 : lw_okq (⟨"DeltaViewsModel", "picked", "(III)I"⟩, 20) := ⟨⟨by decide +kernel, by decide +kernel⟩, List.mem_of_getElem? (i := 530) (by decide +kernel), List.mem_of_getElem? (i := 621) (by decide +kernel), List.mem_of_getElem? (i := 622) (by decide +kernel)⟩
theorem lw_p25 : lw_okq (⟨"DeltaViewsModel", "emit", "(IIIJ)V"⟩, 20) := ⟨⟨by decide +kernel, by decide +kernel⟩, List.mem_of_getElem? (i := 530) (by decide +kernel), List.mem_of_getElem? (i := 625) (by decide +kernel), List.mem_of_getElem? (i := 626) (by decide +kernel)⟩
theorem lw_p26 : lw_okq (⟨"DeltaViewsModel", "unary", "(III)V"⟩, 20) := ⟨⟨by decide +kernel, by decide +kernel⟩, List.mem_of_getElem? (i := 530) (by decide +kernel), List.mem_of_getElem? (i := 629) (by decide +kernel), List.mem_of_getElem? (i := 630) (by decide +kernel)⟩
theorem lw_p27 : lw_okq (⟨"DeltaViewsModel", "passes", "(III)Z"⟩, 20) := ⟨⟨by decide +kernel, by decide +kernel⟩, List.mem_of_getElem? (i := 530) (by decide +kernel), List.mem_of_getElem? (i := 633) (by decide +kernel), List.mem_of_getElem? (i := 634) (by decide +kernel)⟩
theorem lw_p28 : lw_okq (⟨"DeltaViewsModel", "mapped", "(II)I"⟩, 20) := ⟨⟨by decide +kernel, by decide +kernel⟩, List.mem_of_getElem? (i := 530) (by decide +kernel), List.mem_of_getElem? (i := 637) (by decide +kernel), List.mem_of_getElem? (i := 638) (by decide +kernel)⟩
theorem lw_p29 : lw_okq (⟨"DeltaViewsModel", "grouped", "(III)I"⟩, 20) := ⟨⟨by decide +kernel, by decide +kernel⟩, List.mem_of_getElem? (i := 530) (by decide +kernel), List.mem_of_getElem? (i := 641) (by decide +kernel), List.mem_of_getElem? (i := 642) (by decide +kernel)⟩
theorem lw_p30 : lw_okq (⟨"DeltaViewsModel", "settle", "(II)Z"⟩, 20) := ⟨⟨by decide +kernel, by decide +kernel⟩, List.mem_of_getElem? (i := 530) (by decide +kernel), List.mem_of_getElem? (i := 645) (by decide +kernel), List.mem_of_getElem? (i := 646) (by decide +kernel)⟩
theorem lw_p31 : lw_okq (⟨"DeltaViewsModel", "before", "(II)Z"⟩, 20) := ⟨⟨by decide +kernel, by decide +kernel⟩, List.mem_of_getElem? (i := 530) (by decide +kernel), List.mem_of_getElem? (i := 651) (by decide +kernel), List.mem_of_getElem? (i := 652) (by decide +kernel)⟩
def lw_privs_2 : List (MethodName × Nat) := [(⟨"DeltaViews", "fillNextTables", "()Z"⟩, 7), (⟨"DeltaViews", "noteChangesSince", "([LDeltaViews$Rows;)I"⟩, 7), (⟨"DeltaViews", "rowsOf", "(I)LDeltaViews$Rows;"⟩, 7), (⟨"DeltaViewsModel", "out", "(II)Z"⟩, 20), (⟨"DeltaViewsModel", "make", "(IIIIII)I"⟩, 20), (⟨"DeltaViewsModel", "evaluate", "(II)Z"⟩, 20), (⟨"DeltaViewsModel", "joinOne", "(III)V"⟩, 20), (⟨"DeltaViewsModel", "column", "(II)I"⟩, 20), (⟨"DeltaViewsModel", "picked", "(III)I"⟩, 20), (⟨"DeltaViewsModel", "emit", "(IIIJ)V"⟩, 20), (⟨"DeltaViewsModel", "unary", "(III)V"⟩, 20), (⟨"DeltaViewsModel", "passes", "(III)Z"⟩, 20), (⟨"DeltaViewsModel", "mapped", "(II)I"⟩, 20), (⟨"DeltaViewsModel", "grouped", "(III)I"⟩, 20), (⟨"DeltaViewsModel", "settle", "(II)Z"⟩, 20), (⟨"DeltaViewsModel", "before", "(II)Z"⟩, 20)]
theorem lw_r2 : ∀ q ∈ lw_privs_2, lw_okq q := List.forall_mem_cons.mpr ⟨lw_p16, List.forall_mem_cons.mpr ⟨lw_p17, List.forall_mem_cons.mpr ⟨lw_p18, List.forall_mem_cons.mpr ⟨lw_p19, List.forall_mem_cons.mpr ⟨lw_p20, List.forall_mem_cons.mpr ⟨lw_p21, List.forall_mem_cons.mpr ⟨lw_p22, List.forall_mem_cons.mpr ⟨lw_p23, List.forall_mem_cons.mpr ⟨lw_p24, List.forall_mem_cons.mpr ⟨lw_p25, List.forall_mem_cons.mpr ⟨lw_p26, List.forall_mem_cons.mpr ⟨lw_p27, List.forall_mem_cons.mpr ⟨lw_p28, List.forall_mem_cons.mpr ⟨lw_p29, List.forall_mem_cons.mpr ⟨lw_p30, List.forall_mem_cons.mpr ⟨lw_p31, fun _ h => absurd h List.not_mem_nil⟩⟩⟩⟩⟩⟩⟩⟩⟩⟩⟩⟩⟩⟩⟩⟩
theorem lw_p32 : lw_okq (⟨"DeltaViewsModel", "workTable", "(I)V"⟩, 20) := ⟨⟨by decide +kernel, by decide +kernel⟩, List.mem_of_getElem? (i := 530) (by decide +kernel), List.mem_of_getElem? (i := 687) (by decide +kernel), List.mem_of_getElem? (i := 688) (by decide +kernel)⟩
theorem lw_p33 : lw_okq (⟨"DeltaViewsModel", "differing", "(I)I"⟩, 20) := ⟨⟨by decide +kernel, by decide +kernel⟩, List.mem_of_getElem? (i := 530) (by decide +kernel), List.mem_of_getElem? (i := 691) (by decide +kernel), List.mem_of_getElem? (i := 692) (by decide +kernel)⟩
theorem lw_p34 : lw_okq (⟨"DeltaViewsModel", "weightIn", "(IIII)J"⟩, 20) := ⟨⟨by decide +kernel, by decide +kernel⟩, List.mem_of_getElem? (i := 530) (by decide +kernel), List.mem_of_getElem? (i := 695) (by decide +kernel), List.mem_of_getElem? (i := 696) (by decide +kernel)⟩
theorem lw_p35 : lw_okq (⟨"DeltaViewsModel", "adopt", "(I)V"⟩, 20) := ⟨⟨by decide +kernel, by decide +kernel⟩, List.mem_of_getElem? (i := 530) (by decide +kernel), List.mem_of_getElem? (i := 699) (by decide +kernel), List.mem_of_getElem? (i := 700) (by decide +kernel)⟩
def lw_privs_3 : List (MethodName × Nat) := [(⟨"DeltaViewsModel", "workTable", "(I)V"⟩, 20), (⟨"DeltaViewsModel", "differing", "(I)I"⟩, 20), (⟨"DeltaViewsModel", "weightIn", "(IIII)J"⟩, 20), (⟨"DeltaViewsModel", "adopt", "(I)V"⟩, 20)]
theorem lw_r3 : ∀ q ∈ lw_privs_3, lw_okq q := List.forall_mem_cons.mpr ⟨lw_p32, List.forall_mem_cons.mpr ⟨lw_p33, List.forall_mem_cons.mpr ⟨lw_p34, List.forall_mem_cons.mpr ⟨lw_p35, fun _ h => absurd h List.not_mem_nil⟩⟩⟩⟩
def lw_privs : List (MethodName × Nat) := lw_privs_1 ++ (lw_privs_2 ++ (lw_privs_3))
def lw_tbl : List Cond := k2_sels lw_privs ++ tables_1
theorem lw_privs_ok : ∀ q ∈ lw_privs, lw_okq q := by
  show ∀ q ∈ lw_privs_1 ++ (lw_privs_2 ++ (lw_privs_3)), lw_okq q
  exact List.forall_mem_append.mpr ⟨lw_r1, List.forall_mem_append.mpr ⟨lw_r2, lw_r3⟩⟩
end
section
/-! NAMES: by program (wip/whole/mk_names.py) out of the Statement and the listing -/
def tblG : List Cond := lw_tbl.filter goodWord
theorem tg {i : Nat} {w : Cond} (h : lw_tbl[i]? = some w) (hg : goodWord w = true) : w ∈ tblG := List.mem_filter.mpr ⟨List.mem_of_getElem? h, hg⟩
theorem tgood : ∀ w ∈ tblG, (w.onTables && w.keeps) = true ∨ ∃ ty, w = .arrayClass ty := fun w h => good_of_word (List.mem_filter.mp h).2
def RRW : String := "DeltaViews$Rows"
def TRW : u_T := fun k => match k with
  | 0 => ("DeltaViews$Rows", "values", "[I", true)
  | 1 => ("DeltaViews$Rows", "weights", "[J", true)
  | _ => ("DeltaViews$Rows", "size", "I", false)
def tyRW : Nat → FieldType := fun k => match k with
  | 0 => .array .int
  | 1 => .array .long
  | _ => .int
theorem nmRW : ∀ a, a < 3 → ∀ b, b < 3 → a ≠ b → (TRW a).2.1 ≠ (TRW b).2.1 := by decide +kernel
theorem okRW : ∀ k, k < 3 → parseFieldDescriptor (TRW k).2.2.1 = some (tyRW k) := by decide +kernel
def RPD : String := "DeltaViews$Pending"
def TPD : u_T := fun k => match k with
  | 0 => ("DeltaViews$Pending", "tables", "[I", true)
  | 1 => ("DeltaViews$Pending", "values", "[I", true)
  | 2 => ("DeltaViews$Pending", "bys", "[I", true)
  | _ => ("DeltaViews$Pending", "size", "I", false)
def tyPD : Nat → FieldType := fun k => match k with
  | 0 => .array .int
  | 1 => .array .int
  | 2 => .array .int
  | _ => .int
theorem nmPD : ∀ a, a < 4 → ∀ b, b < 4 → a ≠ b → (TPD a).2.1 ≠ (TPD b).2.1 := by decide +kernel
theorem okPD : ∀ k, k < 4 → parseFieldDescriptor (TPD k).2.2.1 = some (tyPD k) := by decide +kernel
def RTR : String := "DeltaViews$TableRule"
def TTR : u_T := fun k => match k with
  | _ => ("DeltaViews$TableRule", "input", "I", true)
def tyTR : Nat → FieldType := fun k => match k with
  | _ => .int
theorem nmTR : ∀ a, a < 1 → ∀ b, b < 1 → a ≠ b → (TTR a).2.1 ≠ (TTR b).2.1 := by decide +kernel
theorem okTR : ∀ k, k < 1 → parseFieldDescriptor (TTR k).2.2.1 = some (tyTR k) := by decide +kernel
def RFR : String := "DeltaViews$FilterRule"
def TFR : u_T := fun k => match k with
  | 0 => ("DeltaViews$FilterRule", "input", "I", true)
  | 1 => ("DeltaViews$FilterRule", "column", "I", true)
  | 2 => ("DeltaViews$FilterRule", "test", "I", true)
  | _ => ("DeltaViews$FilterRule", "number", "I", true)
def tyFR : Nat → FieldType := fun k => match k with
  | 0 => .int
  | 1 => .int
  | 2 => .int
  | _ => .int
theorem nmFR : ∀ a, a < 4 → ∀ b, b < 4 → a ≠ b → (TFR a).2.1 ≠ (TFR b).2.1 := by decide +kernel
theorem okFR : ∀ k, k < 4 → parseFieldDescriptor (TFR k).2.2.1 = some (tyFR k) := by decide +kernel
def RMR : String := "DeltaViews$MapRule"
def TMR : u_T := fun k => match k with
  | 0 => ("DeltaViews$MapRule", "input", "I", true)
  | 1 => ("DeltaViews$MapRule", "x", "I", true)
  | 2 => ("DeltaViews$MapRule", "y", "I", true)
  | _ => ("DeltaViews$MapRule", "z", "I", true)
def tyMR : Nat → FieldType := fun k => match k with
  | 0 => .int
  | 1 => .int
  | 2 => .int
  | _ => .int
theorem nmMR : ∀ a, a < 4 → ∀ b, b < 4 → a ≠ b → (TMR a).2.1 ≠ (TMR b).2.1 := by decide +kernel
theorem okMR : ∀ k, k < 4 → parseFieldDescriptor (TMR k).2.2.1 = some (tyMR k) := by decide +kernel
def RJR : String := "DeltaViews$JoinRule"
def TJR : u_T := fun k => match k with
  | 0 => ("DeltaViews$JoinRule", "left", "I", true)
  | 1 => ("DeltaViews$JoinRule", "right", "I", true)
  | 2 => ("DeltaViews$JoinRule", "leftColumn", "I", true)
  | 3 => ("DeltaViews$JoinRule", "rightColumn", "I", true)
  | _ => ("DeltaViews$JoinRule", "pick", "I", true)
def tyJR : Nat → FieldType := fun k => match k with
  | 0 => .int
  | 1 => .int
  | 2 => .int
  | 3 => .int
  | _ => .int
theorem nmJR : ∀ a, a < 5 → ∀ b, b < 5 → a ≠ b → (TJR a).2.1 ≠ (TJR b).2.1 := by decide +kernel
theorem okJR : ∀ k, k < 5 → parseFieldDescriptor (TJR k).2.2.1 = some (tyJR k) := by decide +kernel
def RCR : String := "DeltaViews$CombineRule"
def TCR : u_T := fun k => match k with
  | 0 => ("DeltaViews$CombineRule", "left", "I", true)
  | 1 => ("DeltaViews$CombineRule", "right", "I", true)
  | _ => ("DeltaViews$CombineRule", "kind", "I", true)
def tyCR : Nat → FieldType := fun k => match k with
  | 0 => .int
  | 1 => .int
  | _ => .int
theorem nmCR : ∀ a, a < 3 → ∀ b, b < 3 → a ≠ b → (TCR a).2.1 ≠ (TCR b).2.1 := by decide +kernel
theorem okCR : ∀ k, k < 3 → parseFieldDescriptor (TCR k).2.2.1 = some (tyCR k) := by decide +kernel
def RDR : String := "DeltaViews$DistinctRule"
def TDR : u_T := fun k => match k with
  | _ => ("DeltaViews$DistinctRule", "input", "I", true)
def tyDR : Nat → FieldType := fun k => match k with
  | _ => .int
theorem nmDR : ∀ a, a < 1 → ∀ b, b < 1 → a ≠ b → (TDR a).2.1 ≠ (TDR b).2.1 := by decide +kernel
theorem okDR : ∀ k, k < 1 → parseFieldDescriptor (TDR k).2.2.1 = some (tyDR k) := by decide +kernel
def RGR : String := "DeltaViews$GroupRule"
def TGR : u_T := fun k => match k with
  | 0 => ("DeltaViews$GroupRule", "input", "I", true)
  | 1 => ("DeltaViews$GroupRule", "key", "I", true)
  | 2 => ("DeltaViews$GroupRule", "column", "I", true)
  | _ => ("DeltaViews$GroupRule", "kind", "I", true)
def tyGR : Nat → FieldType := fun k => match k with
  | 0 => .int
  | 1 => .int
  | 2 => .int
  | _ => .int
theorem nmGR : ∀ a, a < 4 → ∀ b, b < 4 → a ≠ b → (TGR a).2.1 ≠ (TGR b).2.1 := by decide +kernel
theorem okGR : ∀ k, k < 4 → parseFieldDescriptor (TGR k).2.2.1 = some (tyGR k) := by decide +kernel
def RDV : String := "DeltaViews"
def TDV : u_T := fun k => match k with
  | 0 => ("DeltaViews", "now", "[LDeltaViews$Rows;", false)
  | 1 => ("DeltaViews", "next", "[LDeltaViews$Rows;", false)
  | 2 => ("DeltaViews", "work", "LDeltaViews$Rows;", true)
  | 3 => ("DeltaViews", "pending", "LDeltaViews$Pending;", true)
  | 4 => ("DeltaViews", "rules", "[LDeltaViews$Rule;", true)
  | 5 => ("DeltaViews", "changedRows", "[I", true)
  | _ => ("DeltaViews", "nodes", "I", false)
def tyDV : Nat → FieldType := fun k => match k with
  | 0 => .array (.object "DeltaViews$Rows")
  | 1 => .array (.object "DeltaViews$Rows")
  | 2 => .object "DeltaViews$Rows"
  | 3 => .object "DeltaViews$Pending"
  | 4 => .array (.object "DeltaViews$Rule")
  | 5 => .array .int
  | _ => .int
theorem nmDV : ∀ a, a < 7 → ∀ b, b < 7 → a ≠ b → (TDV a).2.1 ≠ (TDV b).2.1 := by decide +kernel
theorem okDV : ∀ k, k < 7 → parseFieldDescriptor (TDV k).2.2.1 = some (tyDV k) := by decide +kernel
def RMD : String := "DeltaViewsModel"
def TMD : u_T := fun k => match k with
  | 0 => ("DeltaViewsModel", "rowA", "[I", true)
  | 1 => ("DeltaViewsModel", "rowB", "[I", true)
  | 2 => ("DeltaViewsModel", "rowC", "[I", true)
  | 3 => ("DeltaViewsModel", "rowW", "[J", true)
  | 4 => ("DeltaViewsModel", "size", "[I", true)
  | 5 => ("DeltaViewsModel", "workA", "[I", true)
  | 6 => ("DeltaViewsModel", "workB", "[I", true)
  | 7 => ("DeltaViewsModel", "workC", "[I", true)
  | 8 => ("DeltaViewsModel", "workW", "[J", true)
  | 9 => ("DeltaViewsModel", "work", "I", false)
  | 10 => ("DeltaViewsModel", "kind", "[I", true)
  | 11 => ("DeltaViewsModel", "argument", "[I", true)
  | 12 => ("DeltaViewsModel", "changedRows", "[I", true)
  | 13 => ("DeltaViewsModel", "nodes", "I", false)
  | 14 => ("DeltaViewsModel", "pTable", "[I", true)
  | 15 => ("DeltaViewsModel", "pA", "[I", true)
  | 16 => ("DeltaViewsModel", "pB", "[I", true)
  | 17 => ("DeltaViewsModel", "pC", "[I", true)
  | 18 => ("DeltaViewsModel", "pBy", "[I", true)
  | _ => ("DeltaViewsModel", "pending", "I", false)
def tyMD : Nat → FieldType := fun k => match k with
  | 0 => .array .int
  | 1 => .array .int
  | 2 => .array .int
  | 3 => .array .long
  | 4 => .array .int
  | 5 => .array .int
  | 6 => .array .int
  | 7 => .array .int
  | 8 => .array .long
  | 9 => .int
  | 10 => .array .int
  | 11 => .array .int
  | 12 => .array .int
  | 13 => .int
  | 14 => .array .int
  | 15 => .array .int
  | 16 => .array .int
  | 17 => .array .int
  | 18 => .array .int
  | _ => .int
theorem nmMD : ∀ a, a < 20 → ∀ b, b < 20 → a ≠ b → (TMD a).2.1 ≠ (TMD b).2.1 := by decide +kernel
theorem okMD : ∀ k, k < 20 → parseFieldDescriptor (TMD k).2.2.1 = some (tyMD k) := by decide +kernel
abbrev vwCl : List vw_C := [(RRW, TRW, 3), (RPD, TPD, 4), (RTR, TTR, 1), (RFR, TFR, 4), (RMR, TMR, 4), (RJR, TJR, 5), (RCR, TCR, 3), (RDR, TDR, 1), (RGR, TGR, 4), (RDV, TDV, 7), (RMD, TMD, 20)]
abbrev cDV_init : ByteArray := prog_1_method_1_code
def yDV_init : MethodName := ⟨"DeltaViews", "<init>", "()V"⟩
abbrev cDV_emptySlots : ByteArray := prog_1_method_20_code
def yDV_emptySlots : MethodName := ⟨"DeltaViews", "emptySlots", "()[LDeltaViews$Rows;"⟩
abbrev cRW_init : ByteArray := prog_9_method_1_code
def yRW_init : MethodName := ⟨"DeltaViews$Rows", "<init>", "(I)V"⟩
abbrev cPD_init : ByteArray := prog_8_method_1_code
def yPD_init : MethodName := ⟨"DeltaViews$Pending", "<init>", "()V"⟩
abbrev cDV_table : ByteArray := prog_1_method_2_code
def yDV_table : MethodName := ⟨"DeltaViews", "table", "(I)I"⟩
abbrev cDV_isTable : ByteArray := prog_1_method_23_code
def yDV_isTable : MethodName := ⟨"DeltaViews", "isTable", "(I)Z"⟩
abbrev cDV_isBelow : ByteArray := prog_1_method_21_code
def yDV_isBelow : MethodName := ⟨"DeltaViews", "isBelow", "(II)Z"⟩
abbrev cTR_init : ByteArray := prog_11_method_1_code
def yTR_init : MethodName := ⟨"DeltaViews$TableRule", "<init>", "(I)V"⟩
abbrev cRC_init : ByteArray := prog_15_method_1_code
def yRC_init : MethodName := ⟨"java/lang/Record", "<init>", "()V"⟩
abbrev cDV_make : ByteArray := prog_1_method_27_code
def yDV_make : MethodName := ⟨"DeltaViews", "make", "(LDeltaViews$Rule;)I"⟩
abbrev cDV_fillNode : ByteArray := prog_1_method_28_code
def yDV_fillNode : MethodName := ⟨"DeltaViews", "fillNode", "(LDeltaViews$Rule;[LDeltaViews$Rows;I)Z"⟩
abbrev cRW_clear : ByteArray := prog_9_method_6_code
def yRW_clear : MethodName := ⟨"DeltaViews$Rows", "clear", "()V"⟩
abbrev cCR_fill : ByteArray := prog_2_method_2_code
def yCR_fill : MethodName := ⟨"DeltaViews$CombineRule", "fill", "([LDeltaViews$Rows;LDeltaViews$Rows;)V"⟩
abbrev cRW_copyFrom : ByteArray := prog_9_method_9_code
def yRW_copyFrom : MethodName := ⟨"DeltaViews$Rows", "copyFrom", "(LDeltaViews$Rows;)V"⟩
abbrev cRW_size : ByteArray := prog_9_method_2_code
def yRW_size : MethodName := ⟨"DeltaViews$Rows", "size", "()I"⟩
abbrev cRW_weightAt : ByteArray := prog_9_method_4_code
def yRW_weightAt : MethodName := ⟨"DeltaViews$Rows", "weightAt", "(I)J"⟩
abbrev cRW_addRow : ByteArray := prog_9_method_8_code
def yRW_addRow : MethodName := ⟨"DeltaViews$Rows", "addRow", "(LDeltaViews$Rows;IJ)V"⟩
abbrev cRW_valueAt : ByteArray := prog_9_method_3_code
def yRW_valueAt : MethodName := ⟨"DeltaViews$Rows", "valueAt", "(II)I"⟩
abbrev cRW_addWeight : ByteArray := prog_9_method_7_code
def yRW_addWeight : MethodName := ⟨"DeltaViews$Rows", "addWeight", "(IIIJ)V"⟩
abbrev cRW_placeOf : ByteArray := prog_9_method_16_code
def yRW_placeOf : MethodName := ⟨"DeltaViews$Rows", "placeOf", "(III)I"⟩
abbrev cRW_compareAt : ByteArray := prog_9_method_18_code
def yRW_compareAt : MethodName := ⟨"DeltaViews$Rows", "compareAt", "(IIII)I"⟩
abbrev cRW_isAt : ByteArray := prog_9_method_17_code
def yRW_isAt : MethodName := ⟨"DeltaViews$Rows", "isAt", "(IIII)Z"⟩
abbrev cRW_insertAt : ByteArray := prog_9_method_19_code
def yRW_insertAt : MethodName := ⟨"DeltaViews$Rows", "insertAt", "(IIIIJ)V"⟩
abbrev cDR_fill : ByteArray := prog_3_method_2_code
def yDR_fill : MethodName := ⟨"DeltaViews$DistinctRule", "fill", "([LDeltaViews$Rows;LDeltaViews$Rows;)V"⟩
abbrev cFR_fill : ByteArray := prog_4_method_2_code
def yFR_fill : MethodName := ⟨"DeltaViews$FilterRule", "fill", "([LDeltaViews$Rows;LDeltaViews$Rows;)V"⟩
abbrev cFR_lets : ByteArray := prog_4_method_3_code
def yFR_lets : MethodName := ⟨"DeltaViews$FilterRule", "lets", "(I)Z"⟩
abbrev cGR_fill : ByteArray := prog_5_method_2_code
def yGR_fill : MethodName := ⟨"DeltaViews$GroupRule", "fill", "([LDeltaViews$Rows;LDeltaViews$Rows;)V"⟩
abbrev cGR_isFirstOfItsKey : ByteArray := prog_5_method_3_code
def yGR_isFirstOfItsKey : MethodName := ⟨"DeltaViews$GroupRule", "isFirstOfItsKey", "(LDeltaViews$Rows;I)Z"⟩
abbrev cGR_isWith : ByteArray := prog_5_method_4_code
def yGR_isWith : MethodName := ⟨"DeltaViews$GroupRule", "isWith", "(LDeltaViews$Rows;II)Z"⟩
abbrev cGR_valueFrom : ByteArray := prog_5_method_5_code
def yGR_valueFrom : MethodName := ⟨"DeltaViews$GroupRule", "valueFrom", "(LDeltaViews$Rows;I)I"⟩
abbrev cGR_startValue : ByteArray := prog_5_method_6_code
def yGR_startValue : MethodName := ⟨"DeltaViews$GroupRule", "startValue", "(LDeltaViews$Rows;I)I"⟩
abbrev cGR_joined : ByteArray := prog_5_method_7_code
def yGR_joined : MethodName := ⟨"DeltaViews$GroupRule", "joined", "(II)I"⟩
abbrev cJR_fill : ByteArray := prog_6_method_2_code
def yJR_fill : MethodName := ⟨"DeltaViews$JoinRule", "fill", "([LDeltaViews$Rows;LDeltaViews$Rows;)V"⟩
abbrev cJR_picked : ByteArray := prog_6_method_3_code
def yJR_picked : MethodName := ⟨"DeltaViews$JoinRule", "picked", "(LDeltaViews$Rows;ILDeltaViews$Rows;II)I"⟩
abbrev cMR_fill : ByteArray := prog_7_method_2_code
def yMR_fill : MethodName := ⟨"DeltaViews$MapRule", "fill", "([LDeltaViews$Rows;LDeltaViews$Rows;)V"⟩
abbrev cMR_coded : ByteArray := prog_7_method_3_code
def yMR_coded : MethodName := ⟨"DeltaViews$MapRule", "coded", "(LDeltaViews$Rows;II)I"⟩
abbrev cTR_fill : ByteArray := prog_11_method_2_code
def yTR_fill : MethodName := ⟨"DeltaViews$TableRule", "fill", "([LDeltaViews$Rows;LDeltaViews$Rows;)V"⟩
abbrev cDV_slotOf : ByteArray := prog_1_method_25_code
def yDV_slotOf : MethodName := ⟨"DeltaViews", "slotOf", "(I)I"⟩
abbrev cDV_settleWork : ByteArray := prog_1_method_29_code
def yDV_settleWork : MethodName := ⟨"DeltaViews", "settleWork", "(LDeltaViews$Rows;)Z"⟩
abbrev cRW_dropZeros : ByteArray := prog_9_method_10_code
def yRW_dropZeros : MethodName := ⟨"DeltaViews$Rows", "dropZeros", "()V"⟩
abbrev cRW_canHold : ByteArray := prog_9_method_12_code
def yRW_canHold : MethodName := ⟨"DeltaViews$Rows", "canHold", "(LDeltaViews$Rows;)Z"⟩
abbrev cDV_filter : ByteArray := prog_1_method_3_code
def yDV_filter : MethodName := ⟨"DeltaViews", "filter", "(IIII)I"⟩
abbrev cDV_isNode : ByteArray := prog_1_method_24_code
def yDV_isNode : MethodName := ⟨"DeltaViews", "isNode", "(I)Z"⟩
abbrev cDV_isColumn : ByteArray := prog_1_method_22_code
def yDV_isColumn : MethodName := ⟨"DeltaViews", "isColumn", "(I)Z"⟩
abbrev cFR_init : ByteArray := prog_4_method_1_code
def yFR_init : MethodName := ⟨"DeltaViews$FilterRule", "<init>", "(IIII)V"⟩
abbrev cDV_map : ByteArray := prog_1_method_4_code
def yDV_map : MethodName := ⟨"DeltaViews", "map", "(IIII)I"⟩
abbrev cMR_init : ByteArray := prog_7_method_1_code
def yMR_init : MethodName := ⟨"DeltaViews$MapRule", "<init>", "(IIII)V"⟩
abbrev cDV_join : ByteArray := prog_1_method_5_code
def yDV_join : MethodName := ⟨"DeltaViews", "join", "(IIIII)I"⟩
abbrev cJR_init : ByteArray := prog_6_method_1_code
def yJR_init : MethodName := ⟨"DeltaViews$JoinRule", "<init>", "(IIIII)V"⟩
abbrev cDV_combine : ByteArray := prog_1_method_6_code
def yDV_combine : MethodName := ⟨"DeltaViews", "combine", "(III)I"⟩
abbrev cCR_init : ByteArray := prog_2_method_1_code
def yCR_init : MethodName := ⟨"DeltaViews$CombineRule", "<init>", "(III)V"⟩
abbrev cDV_distinct : ByteArray := prog_1_method_7_code
def yDV_distinct : MethodName := ⟨"DeltaViews", "distinct", "(I)I"⟩
abbrev cDR_init : ByteArray := prog_3_method_1_code
def yDR_init : MethodName := ⟨"DeltaViews$DistinctRule", "<init>", "(I)V"⟩
abbrev cDV_group : ByteArray := prog_1_method_8_code
def yDV_group : MethodName := ⟨"DeltaViews", "group", "(IIII)I"⟩
abbrev cGR_init : ByteArray := prog_5_method_1_code
def yGR_init : MethodName := ⟨"DeltaViews$GroupRule", "<init>", "(IIII)V"⟩
abbrev cDV_change : ByteArray := prog_1_method_9_code
def yDV_change : MethodName := ⟨"DeltaViews", "change", "(IIIII)I"⟩
abbrev cPD_size : ByteArray := prog_8_method_2_code
def yPD_size : MethodName := ⟨"DeltaViews$Pending", "size", "()I"⟩
abbrev cPD_append : ByteArray := prog_8_method_4_code
def yPD_append : MethodName := ⟨"DeltaViews$Pending", "append", "(IIIII)V"⟩
abbrev cDV_step : ByteArray := prog_1_method_10_code
def yDV_step : MethodName := ⟨"DeltaViews", "step", "()I"⟩
abbrev cDV_wouldFallBelowZero : ByteArray := prog_1_method_31_code
def yDV_wouldFallBelowZero : MethodName := ⟨"DeltaViews", "wouldFallBelowZero", "()Z"⟩
abbrev cDV_gatherTable : ByteArray := prog_1_method_30_code
def yDV_gatherTable : MethodName := ⟨"DeltaViews", "gatherTable", "(I)V"⟩
abbrev cPD_addTo : ByteArray := prog_8_method_5_code
def yPD_addTo : MethodName := ⟨"DeltaViews$Pending", "addTo", "(LDeltaViews$Rows;I)V"⟩
abbrev cRW_hasBelowZero : ByteArray := prog_9_method_11_code
def yRW_hasBelowZero : MethodName := ⟨"DeltaViews$Rows", "hasBelowZero", "()Z"⟩
abbrev cDV_fillNextTables : ByteArray := prog_1_method_32_code
def yDV_fillNextTables : MethodName := ⟨"DeltaViews", "fillNextTables", "()Z"⟩
abbrev cPD_clear : ByteArray := prog_8_method_3_code
def yPD_clear : MethodName := ⟨"DeltaViews$Pending", "clear", "()V"⟩
abbrev cDV_noteChangesSince : ByteArray := prog_1_method_33_code
def yDV_noteChangesSince : MethodName := ⟨"DeltaViews", "noteChangesSince", "([LDeltaViews$Rows;)I"⟩
abbrev cRW_differencesFrom : ByteArray := prog_9_method_15_code
def yRW_differencesFrom : MethodName := ⟨"DeltaViews$Rows", "differencesFrom", "(LDeltaViews$Rows;)I"⟩
abbrev cRW_weightOf : ByteArray := prog_9_method_5_code
def yRW_weightOf : MethodName := ⟨"DeltaViews$Rows", "weightOf", "(III)J"⟩
abbrev cDV_drop : ByteArray := prog_1_method_11_code
def yDV_drop : MethodName := ⟨"DeltaViews", "drop", "()I"⟩
abbrev cDV_weight : ByteArray := prog_1_method_12_code
def yDV_weight : MethodName := ⟨"DeltaViews", "weight", "(IIII)J"⟩
abbrev cDV_rowsOf : ByteArray := prog_1_method_26_code
def yDV_rowsOf : MethodName := ⟨"DeltaViews", "rowsOf", "(I)LDeltaViews$Rows;"⟩
abbrev cDV_inTable : ByteArray := prog_1_method_13_code
def yDV_inTable : MethodName := ⟨"DeltaViews", "inTable", "(IIII)J"⟩
abbrev cDV_rows : ByteArray := prog_1_method_14_code
def yDV_rows : MethodName := ⟨"DeltaViews", "rows", "(I)I"⟩
abbrev cDV_cell : ByteArray := prog_1_method_15_code
def yDV_cell : MethodName := ⟨"DeltaViews", "cell", "(III)J"⟩
abbrev cDV_total : ByteArray := prog_1_method_16_code
def yDV_total : MethodName := ⟨"DeltaViews", "total", "(I)J"⟩
abbrev cRW_sumOfWeights : ByteArray := prog_9_method_13_code
def yRW_sumOfWeights : MethodName := ⟨"DeltaViews$Rows", "sumOfWeights", "()J"⟩
abbrev cDV_changed : ByteArray := prog_1_method_17_code
def yDV_changed : MethodName := ⟨"DeltaViews", "changed", "(I)I"⟩
abbrev cDV_mean : ByteArray := prog_1_method_18_code
def yDV_mean : MethodName := ⟨"DeltaViews", "mean", "(II)D"⟩
abbrev cRW_weightedSum : ByteArray := prog_9_method_14_code
def yRW_weightedSum : MethodName := ⟨"DeltaViews$Rows", "weightedSum", "(I)J"⟩
abbrev cDV_count : ByteArray := prog_1_method_19_code
def yDV_count : MethodName := ⟨"DeltaViews", "count", "(I)I"⟩
abbrev cMD_init : ByteArray := prog_13_method_1_code
def yMD_init : MethodName := ⟨"DeltaViewsModel", "<init>", "()V"⟩
abbrev cMD_table : ByteArray := prog_13_method_16_code
def yMD_table : MethodName := ⟨"DeltaViewsModel", "table", "(I)I"⟩
abbrev cMD_out : ByteArray := prog_13_method_2_code
def yMD_out : MethodName := ⟨"DeltaViewsModel", "out", "(II)Z"⟩
abbrev cMD_make : ByteArray := prog_13_method_15_code
def yMD_make : MethodName := ⟨"DeltaViewsModel", "make", "(IIIIII)I"⟩
abbrev cMD_evaluate : ByteArray := prog_13_method_14_code
def yMD_evaluate : MethodName := ⟨"DeltaViewsModel", "evaluate", "(II)Z"⟩
abbrev cMD_joinOne : ByteArray := prog_13_method_11_code
def yMD_joinOne : MethodName := ⟨"DeltaViewsModel", "joinOne", "(III)V"⟩
abbrev cMD_column : ByteArray := prog_13_method_6_code
def yMD_column : MethodName := ⟨"DeltaViewsModel", "column", "(II)I"⟩
abbrev cMD_picked : ByteArray := prog_13_method_10_code
def yMD_picked : MethodName := ⟨"DeltaViewsModel", "picked", "(III)I"⟩
abbrev cMD_emit : ByteArray := prog_13_method_3_code
def yMD_emit : MethodName := ⟨"DeltaViewsModel", "emit", "(IIIJ)V"⟩
abbrev cMD_unary : ByteArray := prog_13_method_13_code
def yMD_unary : MethodName := ⟨"DeltaViewsModel", "unary", "(III)V"⟩
abbrev cMD_passes : ByteArray := prog_13_method_8_code
def yMD_passes : MethodName := ⟨"DeltaViewsModel", "passes", "(III)Z"⟩
abbrev cMD_mapped : ByteArray := prog_13_method_9_code
def yMD_mapped : MethodName := ⟨"DeltaViewsModel", "mapped", "(II)I"⟩
abbrev cMD_grouped : ByteArray := prog_13_method_12_code
def yMD_grouped : MethodName := ⟨"DeltaViewsModel", "grouped", "(III)I"⟩
abbrev cMD_settle : ByteArray := prog_13_method_5_code
def yMD_settle : MethodName := ⟨"DeltaViewsModel", "settle", "(II)Z"⟩
abbrev cMD_before : ByteArray := prog_13_method_4_code
def yMD_before : MethodName := ⟨"DeltaViewsModel", "before", "(II)Z"⟩
abbrev cMD_filter : ByteArray := prog_13_method_17_code
def yMD_filter : MethodName := ⟨"DeltaViewsModel", "filter", "(IIII)I"⟩
abbrev cMD_map : ByteArray := prog_13_method_18_code
def yMD_map : MethodName := ⟨"DeltaViewsModel", "map", "(IIII)I"⟩
abbrev cMD_join : ByteArray := prog_13_method_19_code
def yMD_join : MethodName := ⟨"DeltaViewsModel", "join", "(IIIII)I"⟩
abbrev cMD_combine : ByteArray := prog_13_method_20_code
def yMD_combine : MethodName := ⟨"DeltaViewsModel", "combine", "(III)I"⟩
abbrev cMD_distinct : ByteArray := prog_13_method_21_code
def yMD_distinct : MethodName := ⟨"DeltaViewsModel", "distinct", "(I)I"⟩
abbrev cMD_group : ByteArray := prog_13_method_22_code
def yMD_group : MethodName := ⟨"DeltaViewsModel", "group", "(IIII)I"⟩
abbrev cMD_change : ByteArray := prog_13_method_23_code
def yMD_change : MethodName := ⟨"DeltaViewsModel", "change", "(IIIII)I"⟩
abbrev cMD_step : ByteArray := prog_13_method_27_code
def yMD_step : MethodName := ⟨"DeltaViewsModel", "step", "()I"⟩
abbrev cMD_workTable : ByteArray := prog_13_method_24_code
def yMD_workTable : MethodName := ⟨"DeltaViewsModel", "workTable", "(I)V"⟩
abbrev cMD_differing : ByteArray := prog_13_method_25_code
def yMD_differing : MethodName := ⟨"DeltaViewsModel", "differing", "(I)I"⟩
abbrev cMD_weightIn : ByteArray := prog_13_method_7_code
def yMD_weightIn : MethodName := ⟨"DeltaViewsModel", "weightIn", "(IIII)J"⟩
abbrev cMD_adopt : ByteArray := prog_13_method_26_code
def yMD_adopt : MethodName := ⟨"DeltaViewsModel", "adopt", "(I)V"⟩
abbrev cMD_drop : ByteArray := prog_13_method_28_code
def yMD_drop : MethodName := ⟨"DeltaViewsModel", "drop", "()I"⟩
abbrev cMD_weight : ByteArray := prog_13_method_29_code
def yMD_weight : MethodName := ⟨"DeltaViewsModel", "weight", "(IIII)J"⟩
abbrev cMD_inTable : ByteArray := prog_13_method_30_code
def yMD_inTable : MethodName := ⟨"DeltaViewsModel", "inTable", "(IIII)J"⟩
abbrev cMD_rows : ByteArray := prog_13_method_31_code
def yMD_rows : MethodName := ⟨"DeltaViewsModel", "rows", "(I)I"⟩
abbrev cMD_cell : ByteArray := prog_13_method_32_code
def yMD_cell : MethodName := ⟨"DeltaViewsModel", "cell", "(III)J"⟩
abbrev cMD_total : ByteArray := prog_13_method_33_code
def yMD_total : MethodName := ⟨"DeltaViewsModel", "total", "(I)J"⟩
abbrev cMD_changed : ByteArray := prog_13_method_34_code
def yMD_changed : MethodName := ⟨"DeltaViewsModel", "changed", "(I)I"⟩
abbrev cMD_mean : ByteArray := prog_13_method_35_code
def yMD_mean : MethodName := ⟨"DeltaViewsModel", "mean", "(II)D"⟩
abbrev cMD_count : ByteArray := prog_13_method_36_code
def yMD_count : MethodName := ⟨"DeltaViewsModel", "count", "(I)I"⟩
end
section
theorem tw_0 : (Cond.initialized "DeltaViewsLaw") ∈ tblG := tg (i := 36) (by decide +kernel) (by decide +kernel)
theorem tw_1 : (Cond.initialized "DeltaViews") ∈ tblG := tg (i := 37) (by decide +kernel) (by decide +kernel)
theorem tw_2 : (Cond.initialized "DeltaViews$Rows") ∈ tblG := tg (i := 38) (by decide +kernel) (by decide +kernel)
theorem tw_3 : (Cond.initialized "DeltaViews$Pending") ∈ tblG := tg (i := 39) (by decide +kernel) (by decide +kernel)
theorem tw_4 : (Cond.initialized "DeltaViewsModel") ∈ tblG := tg (i := 40) (by decide +kernel) (by decide +kernel)
theorem tw_5 : (Cond.initialized "java/lang/Record") ∈ tblG := tg (i := 41) (by decide +kernel) (by decide +kernel)
theorem tw_6 : (Cond.initialized "DeltaViews$TableRule") ∈ tblG := tg (i := 42) (by decide +kernel) (by decide +kernel)
theorem tw_7 : (Cond.initialized "java/lang/Math") ∈ tblG := tg (i := 43) (by decide +kernel) (by decide +kernel)
theorem tw_8 : (Cond.initialized "java/lang/System") ∈ tblG := tg (i := 44) (by decide +kernel) (by decide +kernel)
theorem tw_9 : (Cond.initialized "DeltaViews$JoinRule") ∈ tblG := tg (i := 45) (by decide +kernel) (by decide +kernel)
theorem tw_10 : (Cond.initialized "DeltaViews$MapRule") ∈ tblG := tg (i := 46) (by decide +kernel) (by decide +kernel)
theorem tw_11 : (Cond.initialized "DeltaViews$FilterRule") ∈ tblG := tg (i := 47) (by decide +kernel) (by decide +kernel)
theorem tw_12 : (Cond.initialized "DeltaViews$CombineRule") ∈ tblG := tg (i := 48) (by decide +kernel) (by decide +kernel)
theorem tw_13 : (Cond.initialized "DeltaViews$DistinctRule") ∈ tblG := tg (i := 49) (by decide +kernel) (by decide +kernel)
theorem tw_14 : (Cond.initialized "DeltaViews$GroupRule") ∈ tblG := tg (i := 50) (by decide +kernel) (by decide +kernel)
theorem tw_15 : (Cond.classLink "DeltaViewsLaw" (7 : Nat) "DeltaViews") ∈ tblG := tg (i := 51) (by decide +kernel) (by decide +kernel)
theorem tw_16 : (Cond.instantiable "DeltaViews" (7 : Nat)) ∈ tblG := tg (i := 52) (by decide +kernel) (by decide +kernel)
theorem tw_17 : (Cond.methodLink "DeltaViewsLaw" (9 : Nat) ({ cls := "DeltaViews", name := "<init>", desc := "()V" } : Jvm.MethodName)) ∈ tblG := tg (i := 53) (by decide +kernel) (by decide +kernel)
theorem tw_18 : (Cond.instanceMethod ({ cls := "DeltaViews", name := "<init>", desc := "()V" } : Jvm.MethodName)) ∈ tblG := tg (i := 54) (by decide +kernel) (by decide +kernel)
theorem tw_19 : (Cond.code ({ cls := "DeltaViews", name := "<init>", desc := "()V" } : Jvm.MethodName) prog_1_method_1_code (1 : Nat) (Option.none : Option Jvm.ClassFile.FieldType)) ∈ tblG := tg (i := 55) (by decide +kernel) (by decide +kernel)
theorem tw_20 : (Cond.methodLink "DeltaViews" (3 : Nat) ({ cls := "java/lang/Object", name := "<init>", desc := "()V" } : Jvm.MethodName)) ∈ tblG := tg (i := 56) (by decide +kernel) (by decide +kernel)
theorem tw_21 : (Cond.instanceMethod ({ cls := "java/lang/Object", name := "<init>", desc := "()V" } : Jvm.MethodName)) ∈ tblG := tg (i := 57) (by decide +kernel) (by decide +kernel)
theorem tw_22 : (Cond.code ({ cls := "java/lang/Object", name := "<init>", desc := "()V" } : Jvm.MethodName) object_method_1_code (1 : Nat) (Option.none : Option Jvm.ClassFile.FieldType)) ∈ tblG := tg (i := 58) (by decide +kernel) (by decide +kernel)
theorem tw_23 : (Cond.methodLink "DeltaViews" (9 : Nat) ({ cls := "DeltaViews", name := "emptySlots", desc := "()[LDeltaViews$Rows;" } : Jvm.MethodName)) ∈ tblG := tg (i := 59) (by decide +kernel) (by decide +kernel)
theorem tw_24 : (Cond.static ({ cls := "DeltaViews", name := "emptySlots", desc := "()[LDeltaViews$Rows;" } : Jvm.MethodName)) ∈ tblG := tg (i := 60) (by decide +kernel) (by decide +kernel)
theorem tw_25 : (Cond.code ({ cls := "DeltaViews", name := "emptySlots", desc := "()[LDeltaViews$Rows;" } : Jvm.MethodName) prog_1_method_20_code (2 : Nat) (Option.some (FieldType.array (FieldType.object "DeltaViews$Rows")))) ∈ tblG := tg (i := 61) (by decide +kernel) (by decide +kernel)
theorem tw_26 : (Cond.classLink "DeltaViews" (20 : Nat) "DeltaViews$Rows") ∈ tblG := tg (i := 62) (by decide +kernel) (by decide +kernel)
theorem tw_28 : (Cond.instantiable "DeltaViews$Rows" (3 : Nat)) ∈ tblG := tg (i := 64) (by decide +kernel) (by decide +kernel)
theorem tw_29 : (Cond.methodLink "DeltaViews" (22 : Nat) ({ cls := "DeltaViews$Rows", name := "<init>", desc := "(I)V" } : Jvm.MethodName)) ∈ tblG := tg (i := 65) (by decide +kernel) (by decide +kernel)
theorem tw_30 : (Cond.instanceMethod ({ cls := "DeltaViews$Rows", name := "<init>", desc := "(I)V" } : Jvm.MethodName)) ∈ tblG := tg (i := 66) (by decide +kernel) (by decide +kernel)
theorem tw_31 : (Cond.code ({ cls := "DeltaViews$Rows", name := "<init>", desc := "(I)V" } : Jvm.MethodName) prog_9_method_1_code (2 : Nat) (Option.none : Option Jvm.ClassFile.FieldType)) ∈ tblG := tg (i := 67) (by decide +kernel) (by decide +kernel)
theorem tw_32 : (Cond.methodLink "DeltaViews$Rows" (3 : Nat) ({ cls := "java/lang/Object", name := "<init>", desc := "()V" } : Jvm.MethodName)) ∈ tblG := tg (i := 68) (by decide +kernel) (by decide +kernel)
theorem tw_33 : (Cond.fieldLink "DeltaViews$Rows" (9 : Nat) "DeltaViews$Rows" "values" "[I") ∈ tblG := tg (i := 69) (by decide +kernel) (by decide +kernel)
theorem tw_34 : (Cond.fieldLink "DeltaViews$Rows" (15 : Nat) "DeltaViews$Rows" "weights" "[J") ∈ tblG := tg (i := 70) (by decide +kernel) (by decide +kernel)
theorem tw_35 : (Cond.fieldLink "DeltaViews$Rows" (19 : Nat) "DeltaViews$Rows" "size" "I") ∈ tblG := tg (i := 71) (by decide +kernel) (by decide +kernel)
theorem tw_36 : (Cond.laysFinal "DeltaViews$Rows" "DeltaViews$Rows" "values" "[I") ∈ tblG := tg (i := 72) (by decide +kernel) (by decide +kernel)
theorem tw_38 : (Cond.laysFinal "DeltaViews$Rows" "DeltaViews$Rows" "weights" "[J") ∈ tblG := tg (i := 74) (by decide +kernel) (by decide +kernel)
theorem tw_40 : (Cond.lays "DeltaViews$Rows" "DeltaViews$Rows" "size" "I") ∈ tblG := tg (i := 76) (by decide +kernel) (by decide +kernel)
theorem tw_43 : (Cond.arrayClass FieldType.int) ∈ tblG := tg (i := 79) (by decide +kernel) (by decide +kernel)
theorem tw_44 : (Cond.arrayClass FieldType.long) ∈ tblG := tg (i := 80) (by decide +kernel) (by decide +kernel)
theorem tw_45 : (Cond.classLink "DeltaViews" (29 : Nat) "DeltaViews$Pending") ∈ tblG := tg (i := 81) (by decide +kernel) (by decide +kernel)
theorem tw_46 : (Cond.instantiable "DeltaViews$Pending" (4 : Nat)) ∈ tblG := tg (i := 82) (by decide +kernel) (by decide +kernel)
theorem tw_48 : (Cond.instanceMethod ({ cls := "DeltaViews$Pending", name := "<init>", desc := "()V" } : Jvm.MethodName)) ∈ tblG := tg (i := 84) (by decide +kernel) (by decide +kernel)
theorem tw_49 : (Cond.code ({ cls := "DeltaViews$Pending", name := "<init>", desc := "()V" } : Jvm.MethodName) prog_8_method_1_code (1 : Nat) (Option.none : Option Jvm.ClassFile.FieldType)) ∈ tblG := tg (i := 85) (by decide +kernel) (by decide +kernel)
theorem tw_50 : (Cond.methodLink "DeltaViews$Pending" (3 : Nat) ({ cls := "java/lang/Object", name := "<init>", desc := "()V" } : Jvm.MethodName)) ∈ tblG := tg (i := 86) (by decide +kernel) (by decide +kernel)
theorem tw_51 : (Cond.fieldLink "DeltaViews$Pending" (9 : Nat) "DeltaViews$Pending" "tables" "[I") ∈ tblG := tg (i := 87) (by decide +kernel) (by decide +kernel)
theorem tw_52 : (Cond.fieldLink "DeltaViews$Pending" (15 : Nat) "DeltaViews$Pending" "values" "[I") ∈ tblG := tg (i := 88) (by decide +kernel) (by decide +kernel)
theorem tw_53 : (Cond.fieldLink "DeltaViews$Pending" (18 : Nat) "DeltaViews$Pending" "bys" "[I") ∈ tblG := tg (i := 89) (by decide +kernel) (by decide +kernel)
theorem tw_54 : (Cond.fieldLink "DeltaViews$Pending" (21 : Nat) "DeltaViews$Pending" "size" "I") ∈ tblG := tg (i := 90) (by decide +kernel) (by decide +kernel)
theorem tw_55 : (Cond.laysFinal "DeltaViews$Pending" "DeltaViews$Pending" "tables" "[I") ∈ tblG := tg (i := 91) (by decide +kernel) (by decide +kernel)
theorem tw_57 : (Cond.laysFinal "DeltaViews$Pending" "DeltaViews$Pending" "values" "[I") ∈ tblG := tg (i := 93) (by decide +kernel) (by decide +kernel)
theorem tw_59 : (Cond.laysFinal "DeltaViews$Pending" "DeltaViews$Pending" "bys" "[I") ∈ tblG := tg (i := 95) (by decide +kernel) (by decide +kernel)
theorem tw_61 : (Cond.lays "DeltaViews$Pending" "DeltaViews$Pending" "size" "I") ∈ tblG := tg (i := 97) (by decide +kernel) (by decide +kernel)
theorem tw_64 : (Cond.classLink "DeltaViews" (36 : Nat) "DeltaViews$Rule") ∈ tblG := tg (i := 100) (by decide +kernel) (by decide +kernel)
theorem tw_66 : (Cond.fieldLink "DeltaViews" (13 : Nat) "DeltaViews" "now" "[LDeltaViews$Rows;") ∈ tblG := tg (i := 102) (by decide +kernel) (by decide +kernel)
theorem tw_67 : (Cond.fieldLink "DeltaViews" (17 : Nat) "DeltaViews" "next" "[LDeltaViews$Rows;") ∈ tblG := tg (i := 103) (by decide +kernel) (by decide +kernel)
theorem tw_68 : (Cond.fieldLink "DeltaViews" (25 : Nat) "DeltaViews" "work" "LDeltaViews$Rows;") ∈ tblG := tg (i := 104) (by decide +kernel) (by decide +kernel)
theorem tw_69 : (Cond.fieldLink "DeltaViews" (32 : Nat) "DeltaViews" "pending" "LDeltaViews$Pending;") ∈ tblG := tg (i := 105) (by decide +kernel) (by decide +kernel)
theorem tw_70 : (Cond.fieldLink "DeltaViews" (38 : Nat) "DeltaViews" "rules" "[LDeltaViews$Rule;") ∈ tblG := tg (i := 106) (by decide +kernel) (by decide +kernel)
theorem tw_71 : (Cond.fieldLink "DeltaViews" (42 : Nat) "DeltaViews" "changedRows" "[I") ∈ tblG := tg (i := 107) (by decide +kernel) (by decide +kernel)
theorem tw_72 : (Cond.fieldLink "DeltaViews" (46 : Nat) "DeltaViews" "nodes" "I") ∈ tblG := tg (i := 108) (by decide +kernel) (by decide +kernel)
theorem tw_73 : (Cond.lays "DeltaViews" "DeltaViews" "now" "[LDeltaViews$Rows;") ∈ tblG := tg (i := 109) (by decide +kernel) (by decide +kernel)
theorem tw_75 : (Cond.lays "DeltaViews" "DeltaViews" "next" "[LDeltaViews$Rows;") ∈ tblG := tg (i := 111) (by decide +kernel) (by decide +kernel)
theorem tw_77 : (Cond.laysFinal "DeltaViews" "DeltaViews" "work" "LDeltaViews$Rows;") ∈ tblG := tg (i := 113) (by decide +kernel) (by decide +kernel)
theorem tw_79 : (Cond.laysFinal "DeltaViews" "DeltaViews" "pending" "LDeltaViews$Pending;") ∈ tblG := tg (i := 115) (by decide +kernel) (by decide +kernel)
theorem tw_81 : (Cond.laysFinal "DeltaViews" "DeltaViews" "rules" "[LDeltaViews$Rule;") ∈ tblG := tg (i := 117) (by decide +kernel) (by decide +kernel)
theorem tw_83 : (Cond.laysFinal "DeltaViews" "DeltaViews" "changedRows" "[I") ∈ tblG := tg (i := 119) (by decide +kernel) (by decide +kernel)
theorem tw_85 : (Cond.lays "DeltaViews" "DeltaViews" "nodes" "I") ∈ tblG := tg (i := 121) (by decide +kernel) (by decide +kernel)
theorem tw_88 : (Cond.methodLink "DeltaViewsLaw" (13 : Nat) ({ cls := "DeltaViews", name := "table", desc := "(I)I" } : Jvm.MethodName)) ∈ tblG := tg (i := 124) (by decide +kernel) (by decide +kernel)
theorem tw_89 : (Cond.instanceMethod ({ cls := "DeltaViews", name := "table", desc := "(I)I" } : Jvm.MethodName)) ∈ tblG := tg (i := 125) (by decide +kernel) (by decide +kernel)
theorem tw_90 : (Cond.selects "DeltaViews" ({ cls := "DeltaViews", name := "table", desc := "(I)I" } : Jvm.MethodName) ({ cls := "DeltaViews", name := "table", desc := "(I)I" } : Jvm.MethodName)) ∈ tblG := tg (i := 126) (by decide +kernel) (by decide +kernel)
theorem tw_91 : (Cond.code ({ cls := "DeltaViews", name := "table", desc := "(I)I" } : Jvm.MethodName) prog_1_method_2_code (2 : Nat) (Option.some FieldType.int)) ∈ tblG := tg (i := 127) (by decide +kernel) (by decide +kernel)
theorem tw_92 : (Cond.methodLink "DeltaViews" (50 : Nat) ({ cls := "DeltaViews", name := "isTable", desc := "(I)Z" } : Jvm.MethodName)) ∈ tblG := tg (i := 128) (by decide +kernel) (by decide +kernel)
theorem tw_93 : (Cond.static ({ cls := "DeltaViews", name := "isTable", desc := "(I)Z" } : Jvm.MethodName)) ∈ tblG := tg (i := 129) (by decide +kernel) (by decide +kernel)
theorem tw_94 : (Cond.code ({ cls := "DeltaViews", name := "isTable", desc := "(I)Z" } : Jvm.MethodName) prog_1_method_23_code (1 : Nat) (Option.some FieldType.boolean)) ∈ tblG := tg (i := 130) (by decide +kernel) (by decide +kernel)
theorem tw_95 : (Cond.methodLink "DeltaViews" (67 : Nat) ({ cls := "DeltaViews", name := "isBelow", desc := "(II)Z" } : Jvm.MethodName)) ∈ tblG := tg (i := 131) (by decide +kernel) (by decide +kernel)
theorem tw_96 : (Cond.static ({ cls := "DeltaViews", name := "isBelow", desc := "(II)Z" } : Jvm.MethodName)) ∈ tblG := tg (i := 132) (by decide +kernel) (by decide +kernel)
theorem tw_97 : (Cond.code ({ cls := "DeltaViews", name := "isBelow", desc := "(II)Z" } : Jvm.MethodName) prog_1_method_21_code (2 : Nat) (Option.some FieldType.boolean)) ∈ tblG := tg (i := 133) (by decide +kernel) (by decide +kernel)
theorem tw_98 : (Cond.classLink "DeltaViews" (54 : Nat) "DeltaViews$TableRule") ∈ tblG := tg (i := 134) (by decide +kernel) (by decide +kernel)
theorem tw_99 : (Cond.instantiable "DeltaViews$TableRule" (1 : Nat)) ∈ tblG := tg (i := 135) (by decide +kernel) (by decide +kernel)
theorem tw_101 : (Cond.instanceMethod ({ cls := "DeltaViews$TableRule", name := "<init>", desc := "(I)V" } : Jvm.MethodName)) ∈ tblG := tg (i := 137) (by decide +kernel) (by decide +kernel)
theorem tw_102 : (Cond.code ({ cls := "DeltaViews$TableRule", name := "<init>", desc := "(I)V" } : Jvm.MethodName) prog_11_method_1_code (2 : Nat) (Option.none : Option Jvm.ClassFile.FieldType)) ∈ tblG := tg (i := 138) (by decide +kernel) (by decide +kernel)
theorem tw_103 : (Cond.methodLink "DeltaViews$TableRule" (1 : Nat) ({ cls := "java/lang/Record", name := "<init>", desc := "()V" } : Jvm.MethodName)) ∈ tblG := tg (i := 139) (by decide +kernel) (by decide +kernel)
theorem tw_104 : (Cond.instanceMethod ({ cls := "java/lang/Record", name := "<init>", desc := "()V" } : Jvm.MethodName)) ∈ tblG := tg (i := 140) (by decide +kernel) (by decide +kernel)
theorem tw_105 : (Cond.code ({ cls := "java/lang/Record", name := "<init>", desc := "()V" } : Jvm.MethodName) prog_15_method_1_code (1 : Nat) (Option.none : Option Jvm.ClassFile.FieldType)) ∈ tblG := tg (i := 141) (by decide +kernel) (by decide +kernel)
theorem tw_106 : (Cond.methodLink "java/lang/Record" (1 : Nat) ({ cls := "java/lang/Object", name := "<init>", desc := "()V" } : Jvm.MethodName)) ∈ tblG := tg (i := 142) (by decide +kernel) (by decide +kernel)
theorem tw_107 : (Cond.fieldLink "DeltaViews$TableRule" (7 : Nat) "DeltaViews$TableRule" "input" "I") ∈ tblG := tg (i := 143) (by decide +kernel) (by decide +kernel)
theorem tw_108 : (Cond.laysFinal "DeltaViews$TableRule" "DeltaViews$TableRule" "input" "I") ∈ tblG := tg (i := 144) (by decide +kernel) (by decide +kernel)
theorem tw_111 : (Cond.methodLink "DeltaViews" (57 : Nat) ({ cls := "DeltaViews", name := "make", desc := "(LDeltaViews$Rule;)I" } : Jvm.MethodName)) ∈ tblG := tg (i := 147) (by decide +kernel) (by decide +kernel)
theorem tw_113 : (Cond.instanceMethod ({ cls := "DeltaViews", name := "make", desc := "(LDeltaViews$Rule;)I" } : Jvm.MethodName)) ∈ tblG := tg (i := 149) (by decide +kernel) (by decide +kernel)
theorem tw_114 : (Cond.code ({ cls := "DeltaViews", name := "make", desc := "(LDeltaViews$Rule;)I" } : Jvm.MethodName) prog_1_method_27_code (3 : Nat) (Option.some FieldType.int)) ∈ tblG := tg (i := 150) (by decide +kernel) (by decide +kernel)
theorem tw_115 : (Cond.methodLink "DeltaViews" (113 : Nat) ({ cls := "DeltaViews", name := "fillNode", desc := "(LDeltaViews$Rule;[LDeltaViews$Rows;I)Z" } : Jvm.MethodName)) ∈ tblG := tg (i := 151) (by decide +kernel) (by decide +kernel)
theorem tw_117 : (Cond.instanceMethod ({ cls := "DeltaViews", name := "fillNode", desc := "(LDeltaViews$Rule;[LDeltaViews$Rows;I)Z" } : Jvm.MethodName)) ∈ tblG := tg (i := 153) (by decide +kernel) (by decide +kernel)
theorem tw_118 : (Cond.code ({ cls := "DeltaViews", name := "fillNode", desc := "(LDeltaViews$Rule;[LDeltaViews$Rows;I)Z" } : Jvm.MethodName) prog_1_method_28_code (4 : Nat) (Option.some FieldType.boolean)) ∈ tblG := tg (i := 154) (by decide +kernel) (by decide +kernel)
theorem tw_119 : (Cond.methodLink "DeltaViews" (147 : Nat) ({ cls := "DeltaViews$Rows", name := "clear", desc := "()V" } : Jvm.MethodName)) ∈ tblG := tg (i := 155) (by decide +kernel) (by decide +kernel)
theorem tw_120 : (Cond.instanceMethod ({ cls := "DeltaViews$Rows", name := "clear", desc := "()V" } : Jvm.MethodName)) ∈ tblG := tg (i := 156) (by decide +kernel) (by decide +kernel)
theorem tw_121 : (Cond.selects "DeltaViews$Rows" ({ cls := "DeltaViews$Rows", name := "clear", desc := "()V" } : Jvm.MethodName) ({ cls := "DeltaViews$Rows", name := "clear", desc := "()V" } : Jvm.MethodName)) ∈ tblG := tg (i := 157) (by decide +kernel) (by decide +kernel)
theorem tw_122 : (Cond.code ({ cls := "DeltaViews$Rows", name := "clear", desc := "()V" } : Jvm.MethodName) prog_9_method_6_code (1 : Nat) (Option.none : Option Jvm.ClassFile.FieldType)) ∈ tblG := tg (i := 158) (by decide +kernel) (by decide +kernel)
theorem tw_124 : (Cond.methodLink "DeltaViews" (148 : Nat) ({ cls := "DeltaViews$Rule", name := "fill", desc := "([LDeltaViews$Rows;LDeltaViews$Rows;)V" } : Jvm.MethodName)) ∈ tblG := tg (i := 160) (by decide +kernel) (by decide +kernel)
theorem tw_128 : (Cond.selects "DeltaViews$CombineRule" ({ cls := "DeltaViews$Rule", name := "fill", desc := "([LDeltaViews$Rows;LDeltaViews$Rows;)V" } : Jvm.MethodName) ({ cls := "DeltaViews$CombineRule", name := "fill", desc := "([LDeltaViews$Rows;LDeltaViews$Rows;)V" } : Jvm.MethodName)) ∈ tblG := tg (i := 164) (by decide +kernel) (by decide +kernel)
theorem tw_130 : (Cond.instanceMethod ({ cls := "DeltaViews$CombineRule", name := "fill", desc := "([LDeltaViews$Rows;LDeltaViews$Rows;)V" } : Jvm.MethodName)) ∈ tblG := tg (i := 166) (by decide +kernel) (by decide +kernel)
theorem tw_132 : (Cond.code ({ cls := "DeltaViews$CombineRule", name := "fill", desc := "([LDeltaViews$Rows;LDeltaViews$Rows;)V" } : Jvm.MethodName) prog_2_method_2_code (7 : Nat) (Option.none : Option Jvm.ClassFile.FieldType)) ∈ tblG := tg (i := 168) (by decide +kernel) (by decide +kernel)
theorem tw_133 : (Cond.methodLink "DeltaViews$CombineRule" (19 : Nat) ({ cls := "DeltaViews$Rows", name := "copyFrom", desc := "(LDeltaViews$Rows;)V" } : Jvm.MethodName)) ∈ tblG := tg (i := 169) (by decide +kernel) (by decide +kernel)
theorem tw_134 : (Cond.instanceMethod ({ cls := "DeltaViews$Rows", name := "copyFrom", desc := "(LDeltaViews$Rows;)V" } : Jvm.MethodName)) ∈ tblG := tg (i := 170) (by decide +kernel) (by decide +kernel)
theorem tw_135 : (Cond.selects "DeltaViews$Rows" ({ cls := "DeltaViews$Rows", name := "copyFrom", desc := "(LDeltaViews$Rows;)V" } : Jvm.MethodName) ({ cls := "DeltaViews$Rows", name := "copyFrom", desc := "(LDeltaViews$Rows;)V" } : Jvm.MethodName)) ∈ tblG := tg (i := 171) (by decide +kernel) (by decide +kernel)
theorem tw_136 : (Cond.code ({ cls := "DeltaViews$Rows", name := "copyFrom", desc := "(LDeltaViews$Rows;)V" } : Jvm.MethodName) prog_9_method_9_code (2 : Nat) (Option.none : Option Jvm.ClassFile.FieldType)) ∈ tblG := tg (i := 172) (by decide +kernel) (by decide +kernel)
theorem tw_137 : (Cond.methodLink "DeltaViews$Rows" (43 : Nat) ({ cls := "java/lang/Math", name := "min", desc := "(II)I" } : Jvm.MethodName)) ∈ tblG := tg (i := 173) (by decide +kernel) (by decide +kernel)
theorem tw_138 : (Cond.static ({ cls := "java/lang/Math", name := "min", desc := "(II)I" } : Jvm.MethodName)) ∈ tblG := tg (i := 174) (by decide +kernel) (by decide +kernel)
theorem tw_139 : (Cond.code ({ cls := "java/lang/Math", name := "min", desc := "(II)I" } : Jvm.MethodName) prog_14_method_69_code (2 : Nat) (Option.some FieldType.int)) ∈ tblG := tg (i := 175) (by decide +kernel) (by decide +kernel)
theorem tw_140 : (Cond.methodLink "DeltaViews$Rows" (48 : Nat) ({ cls := "java/lang/System", name := "arraycopy", desc := "(Ljava/lang/Object;ILjava/lang/Object;II)V" } : Jvm.MethodName)) ∈ tblG := tg (i := 176) (by decide +kernel) (by decide +kernel)
theorem tw_141 : (Cond.static ({ cls := "java/lang/System", name := "arraycopy", desc := "(Ljava/lang/Object;ILjava/lang/Object;II)V" } : Jvm.MethodName)) ∈ tblG := tg (i := 177) (by decide +kernel) (by decide +kernel)
theorem tw_142 : (Cond.native ({ cls := "java/lang/System", name := "arraycopy", desc := "(Ljava/lang/Object;ILjava/lang/Object;II)V" } : Jvm.MethodName)) ∈ tblG := tg (i := 178) (by decide +kernel) (by decide +kernel)
theorem tw_143 : (Cond.constantLong "DeltaViews$CombineRule" (25 : Nat) (-1 : Int64)) ∈ tblG := tg (i := 179) (by decide +kernel) (by decide +kernel)
theorem tw_144 : (Cond.methodLink "DeltaViews$CombineRule" (27 : Nat) ({ cls := "DeltaViews$Rows", name := "size", desc := "()I" } : Jvm.MethodName)) ∈ tblG := tg (i := 180) (by decide +kernel) (by decide +kernel)
theorem tw_145 : (Cond.instanceMethod ({ cls := "DeltaViews$Rows", name := "size", desc := "()I" } : Jvm.MethodName)) ∈ tblG := tg (i := 181) (by decide +kernel) (by decide +kernel)
theorem tw_146 : (Cond.selects "DeltaViews$Rows" ({ cls := "DeltaViews$Rows", name := "size", desc := "()I" } : Jvm.MethodName) ({ cls := "DeltaViews$Rows", name := "size", desc := "()I" } : Jvm.MethodName)) ∈ tblG := tg (i := 182) (by decide +kernel) (by decide +kernel)
theorem tw_147 : (Cond.code ({ cls := "DeltaViews$Rows", name := "size", desc := "()I" } : Jvm.MethodName) prog_9_method_2_code (1 : Nat) (Option.some FieldType.int)) ∈ tblG := tg (i := 183) (by decide +kernel) (by decide +kernel)
theorem tw_148 : (Cond.methodLink "DeltaViews$CombineRule" (31 : Nat) ({ cls := "DeltaViews$Rows", name := "weightAt", desc := "(I)J" } : Jvm.MethodName)) ∈ tblG := tg (i := 184) (by decide +kernel) (by decide +kernel)
theorem tw_149 : (Cond.instanceMethod ({ cls := "DeltaViews$Rows", name := "weightAt", desc := "(I)J" } : Jvm.MethodName)) ∈ tblG := tg (i := 185) (by decide +kernel) (by decide +kernel)
theorem tw_150 : (Cond.selects "DeltaViews$Rows" ({ cls := "DeltaViews$Rows", name := "weightAt", desc := "(I)J" } : Jvm.MethodName) ({ cls := "DeltaViews$Rows", name := "weightAt", desc := "(I)J" } : Jvm.MethodName)) ∈ tblG := tg (i := 186) (by decide +kernel) (by decide +kernel)
theorem tw_151 : (Cond.code ({ cls := "DeltaViews$Rows", name := "weightAt", desc := "(I)J" } : Jvm.MethodName) prog_9_method_4_code (2 : Nat) (Option.some FieldType.long)) ∈ tblG := tg (i := 187) (by decide +kernel) (by decide +kernel)
theorem tw_152 : (Cond.methodLink "DeltaViews$CombineRule" (35 : Nat) ({ cls := "DeltaViews$Rows", name := "addRow", desc := "(LDeltaViews$Rows;IJ)V" } : Jvm.MethodName)) ∈ tblG := tg (i := 188) (by decide +kernel) (by decide +kernel)
theorem tw_153 : (Cond.instanceMethod ({ cls := "DeltaViews$Rows", name := "addRow", desc := "(LDeltaViews$Rows;IJ)V" } : Jvm.MethodName)) ∈ tblG := tg (i := 189) (by decide +kernel) (by decide +kernel)
theorem tw_154 : (Cond.selects "DeltaViews$Rows" ({ cls := "DeltaViews$Rows", name := "addRow", desc := "(LDeltaViews$Rows;IJ)V" } : Jvm.MethodName) ({ cls := "DeltaViews$Rows", name := "addRow", desc := "(LDeltaViews$Rows;IJ)V" } : Jvm.MethodName)) ∈ tblG := tg (i := 190) (by decide +kernel) (by decide +kernel)
theorem tw_155 : (Cond.code ({ cls := "DeltaViews$Rows", name := "addRow", desc := "(LDeltaViews$Rows;IJ)V" } : Jvm.MethodName) prog_9_method_8_code (5 : Nat) (Option.none : Option Jvm.ClassFile.FieldType)) ∈ tblG := tg (i := 191) (by decide +kernel) (by decide +kernel)
theorem tw_156 : (Cond.methodLink "DeltaViews$Rows" (35 : Nat) ({ cls := "DeltaViews$Rows", name := "valueAt", desc := "(II)I" } : Jvm.MethodName)) ∈ tblG := tg (i := 192) (by decide +kernel) (by decide +kernel)
theorem tw_157 : (Cond.instanceMethod ({ cls := "DeltaViews$Rows", name := "valueAt", desc := "(II)I" } : Jvm.MethodName)) ∈ tblG := tg (i := 193) (by decide +kernel) (by decide +kernel)
theorem tw_158 : (Cond.selects "DeltaViews$Rows" ({ cls := "DeltaViews$Rows", name := "valueAt", desc := "(II)I" } : Jvm.MethodName) ({ cls := "DeltaViews$Rows", name := "valueAt", desc := "(II)I" } : Jvm.MethodName)) ∈ tblG := tg (i := 194) (by decide +kernel) (by decide +kernel)
theorem tw_159 : (Cond.code ({ cls := "DeltaViews$Rows", name := "valueAt", desc := "(II)I" } : Jvm.MethodName) prog_9_method_3_code (3 : Nat) (Option.some FieldType.int)) ∈ tblG := tg (i := 195) (by decide +kernel) (by decide +kernel)
theorem tw_160 : (Cond.methodLink "DeltaViews$Rows" (39 : Nat) ({ cls := "DeltaViews$Rows", name := "addWeight", desc := "(IIIJ)V" } : Jvm.MethodName)) ∈ tblG := tg (i := 196) (by decide +kernel) (by decide +kernel)
theorem tw_161 : (Cond.instanceMethod ({ cls := "DeltaViews$Rows", name := "addWeight", desc := "(IIIJ)V" } : Jvm.MethodName)) ∈ tblG := tg (i := 197) (by decide +kernel) (by decide +kernel)
theorem tw_162 : (Cond.selects "DeltaViews$Rows" ({ cls := "DeltaViews$Rows", name := "addWeight", desc := "(IIIJ)V" } : Jvm.MethodName) ({ cls := "DeltaViews$Rows", name := "addWeight", desc := "(IIIJ)V" } : Jvm.MethodName)) ∈ tblG := tg (i := 198) (by decide +kernel) (by decide +kernel)
theorem tw_163 : (Cond.code ({ cls := "DeltaViews$Rows", name := "addWeight", desc := "(IIIJ)V" } : Jvm.MethodName) prog_9_method_7_code (7 : Nat) (Option.none : Option Jvm.ClassFile.FieldType)) ∈ tblG := tg (i := 199) (by decide +kernel) (by decide +kernel)
theorem tw_164 : (Cond.methodLink "DeltaViews$Rows" (23 : Nat) ({ cls := "DeltaViews$Rows", name := "placeOf", desc := "(III)I" } : Jvm.MethodName)) ∈ tblG := tg (i := 200) (by decide +kernel) (by decide +kernel)
theorem tw_166 : (Cond.instanceMethod ({ cls := "DeltaViews$Rows", name := "placeOf", desc := "(III)I" } : Jvm.MethodName)) ∈ tblG := tg (i := 202) (by decide +kernel) (by decide +kernel)
theorem tw_167 : (Cond.code ({ cls := "DeltaViews$Rows", name := "placeOf", desc := "(III)I" } : Jvm.MethodName) prog_9_method_16_code (7 : Nat) (Option.some FieldType.int)) ∈ tblG := tg (i := 203) (by decide +kernel) (by decide +kernel)
theorem tw_168 : (Cond.methodLink "DeltaViews$Rows" (62 : Nat) ({ cls := "DeltaViews$Rows", name := "compareAt", desc := "(IIII)I" } : Jvm.MethodName)) ∈ tblG := tg (i := 204) (by decide +kernel) (by decide +kernel)
theorem tw_170 : (Cond.instanceMethod ({ cls := "DeltaViews$Rows", name := "compareAt", desc := "(IIII)I" } : Jvm.MethodName)) ∈ tblG := tg (i := 206) (by decide +kernel) (by decide +kernel)
theorem tw_171 : (Cond.code ({ cls := "DeltaViews$Rows", name := "compareAt", desc := "(IIII)I" } : Jvm.MethodName) prog_9_method_18_code (6 : Nat) (Option.some FieldType.int)) ∈ tblG := tg (i := 207) (by decide +kernel) (by decide +kernel)
theorem tw_172 : (Cond.methodLink "DeltaViews$Rows" (27 : Nat) ({ cls := "DeltaViews$Rows", name := "isAt", desc := "(IIII)Z" } : Jvm.MethodName)) ∈ tblG := tg (i := 208) (by decide +kernel) (by decide +kernel)
theorem tw_174 : (Cond.instanceMethod ({ cls := "DeltaViews$Rows", name := "isAt", desc := "(IIII)Z" } : Jvm.MethodName)) ∈ tblG := tg (i := 210) (by decide +kernel) (by decide +kernel)
theorem tw_175 : (Cond.code ({ cls := "DeltaViews$Rows", name := "isAt", desc := "(IIII)Z" } : Jvm.MethodName) prog_9_method_17_code (5 : Nat) (Option.some FieldType.boolean)) ∈ tblG := tg (i := 211) (by decide +kernel) (by decide +kernel)
theorem tw_176 : (Cond.methodLink "DeltaViews$Rows" (31 : Nat) ({ cls := "DeltaViews$Rows", name := "insertAt", desc := "(IIIIJ)V" } : Jvm.MethodName)) ∈ tblG := tg (i := 212) (by decide +kernel) (by decide +kernel)
theorem tw_178 : (Cond.instanceMethod ({ cls := "DeltaViews$Rows", name := "insertAt", desc := "(IIIIJ)V" } : Jvm.MethodName)) ∈ tblG := tg (i := 214) (by decide +kernel) (by decide +kernel)
theorem tw_179 : (Cond.code ({ cls := "DeltaViews$Rows", name := "insertAt", desc := "(IIIIJ)V" } : Jvm.MethodName) prog_9_method_19_code (8 : Nat) (Option.none : Option Jvm.ClassFile.FieldType)) ∈ tblG := tg (i := 215) (by decide +kernel) (by decide +kernel)
theorem tw_181 : (Cond.selects "DeltaViews$DistinctRule" ({ cls := "DeltaViews$Rule", name := "fill", desc := "([LDeltaViews$Rows;LDeltaViews$Rows;)V" } : Jvm.MethodName) ({ cls := "DeltaViews$DistinctRule", name := "fill", desc := "([LDeltaViews$Rows;LDeltaViews$Rows;)V" } : Jvm.MethodName)) ∈ tblG := tg (i := 217) (by decide +kernel) (by decide +kernel)
theorem tw_183 : (Cond.instanceMethod ({ cls := "DeltaViews$DistinctRule", name := "fill", desc := "([LDeltaViews$Rows;LDeltaViews$Rows;)V" } : Jvm.MethodName)) ∈ tblG := tg (i := 219) (by decide +kernel) (by decide +kernel)
theorem tw_185 : (Cond.code ({ cls := "DeltaViews$DistinctRule", name := "fill", desc := "([LDeltaViews$Rows;LDeltaViews$Rows;)V" } : Jvm.MethodName) prog_3_method_2_code (5 : Nat) (Option.none : Option Jvm.ClassFile.FieldType)) ∈ tblG := tg (i := 221) (by decide +kernel) (by decide +kernel)
theorem tw_186 : (Cond.methodLink "DeltaViews$DistinctRule" (13 : Nat) ({ cls := "DeltaViews$Rows", name := "size", desc := "()I" } : Jvm.MethodName)) ∈ tblG := tg (i := 222) (by decide +kernel) (by decide +kernel)
theorem tw_187 : (Cond.methodLink "DeltaViews$DistinctRule" (19 : Nat) ({ cls := "DeltaViews$Rows", name := "weightAt", desc := "(I)J" } : Jvm.MethodName)) ∈ tblG := tg (i := 223) (by decide +kernel) (by decide +kernel)
theorem tw_188 : (Cond.methodLink "DeltaViews$DistinctRule" (23 : Nat) ({ cls := "DeltaViews$Rows", name := "addRow", desc := "(LDeltaViews$Rows;IJ)V" } : Jvm.MethodName)) ∈ tblG := tg (i := 224) (by decide +kernel) (by decide +kernel)
theorem tw_190 : (Cond.selects "DeltaViews$FilterRule" ({ cls := "DeltaViews$Rule", name := "fill", desc := "([LDeltaViews$Rows;LDeltaViews$Rows;)V" } : Jvm.MethodName) ({ cls := "DeltaViews$FilterRule", name := "fill", desc := "([LDeltaViews$Rows;LDeltaViews$Rows;)V" } : Jvm.MethodName)) ∈ tblG := tg (i := 226) (by decide +kernel) (by decide +kernel)
theorem tw_192 : (Cond.instanceMethod ({ cls := "DeltaViews$FilterRule", name := "fill", desc := "([LDeltaViews$Rows;LDeltaViews$Rows;)V" } : Jvm.MethodName)) ∈ tblG := tg (i := 228) (by decide +kernel) (by decide +kernel)
theorem tw_194 : (Cond.code ({ cls := "DeltaViews$FilterRule", name := "fill", desc := "([LDeltaViews$Rows;LDeltaViews$Rows;)V" } : Jvm.MethodName) prog_4_method_2_code (5 : Nat) (Option.none : Option Jvm.ClassFile.FieldType)) ∈ tblG := tg (i := 230) (by decide +kernel) (by decide +kernel)
theorem tw_195 : (Cond.methodLink "DeltaViews$FilterRule" (22 : Nat) ({ cls := "DeltaViews$Rows", name := "size", desc := "()I" } : Jvm.MethodName)) ∈ tblG := tg (i := 231) (by decide +kernel) (by decide +kernel)
theorem tw_196 : (Cond.methodLink "DeltaViews$FilterRule" (28 : Nat) ({ cls := "DeltaViews$Rows", name := "valueAt", desc := "(II)I" } : Jvm.MethodName)) ∈ tblG := tg (i := 232) (by decide +kernel) (by decide +kernel)
theorem tw_197 : (Cond.methodLink "DeltaViews$FilterRule" (32 : Nat) ({ cls := "DeltaViews$FilterRule", name := "lets", desc := "(I)Z" } : Jvm.MethodName)) ∈ tblG := tg (i := 233) (by decide +kernel) (by decide +kernel)
theorem tw_199 : (Cond.instanceMethod ({ cls := "DeltaViews$FilterRule", name := "lets", desc := "(I)Z" } : Jvm.MethodName)) ∈ tblG := tg (i := 235) (by decide +kernel) (by decide +kernel)
theorem tw_200 : (Cond.instantiable "DeltaViews$FilterRule" (4 : Nat)) ∈ tblG := tg (i := 236) (by decide +kernel) (by decide +kernel)
theorem tw_201 : (Cond.code ({ cls := "DeltaViews$FilterRule", name := "lets", desc := "(I)Z" } : Jvm.MethodName) prog_4_method_3_code (2 : Nat) (Option.some FieldType.boolean)) ∈ tblG := tg (i := 237) (by decide +kernel) (by decide +kernel)
theorem tw_202 : (Cond.methodLink "DeltaViews$FilterRule" (36 : Nat) ({ cls := "DeltaViews$Rows", name := "weightAt", desc := "(I)J" } : Jvm.MethodName)) ∈ tblG := tg (i := 238) (by decide +kernel) (by decide +kernel)
theorem tw_203 : (Cond.methodLink "DeltaViews$FilterRule" (40 : Nat) ({ cls := "DeltaViews$Rows", name := "addRow", desc := "(LDeltaViews$Rows;IJ)V" } : Jvm.MethodName)) ∈ tblG := tg (i := 239) (by decide +kernel) (by decide +kernel)
theorem tw_205 : (Cond.selects "DeltaViews$GroupRule" ({ cls := "DeltaViews$Rule", name := "fill", desc := "([LDeltaViews$Rows;LDeltaViews$Rows;)V" } : Jvm.MethodName) ({ cls := "DeltaViews$GroupRule", name := "fill", desc := "([LDeltaViews$Rows;LDeltaViews$Rows;)V" } : Jvm.MethodName)) ∈ tblG := tg (i := 241) (by decide +kernel) (by decide +kernel)
theorem tw_207 : (Cond.instanceMethod ({ cls := "DeltaViews$GroupRule", name := "fill", desc := "([LDeltaViews$Rows;LDeltaViews$Rows;)V" } : Jvm.MethodName)) ∈ tblG := tg (i := 243) (by decide +kernel) (by decide +kernel)
theorem tw_209 : (Cond.code ({ cls := "DeltaViews$GroupRule", name := "fill", desc := "([LDeltaViews$Rows;LDeltaViews$Rows;)V" } : Jvm.MethodName) prog_5_method_2_code (5 : Nat) (Option.none : Option Jvm.ClassFile.FieldType)) ∈ tblG := tg (i := 245) (by decide +kernel) (by decide +kernel)
theorem tw_210 : (Cond.methodLink "DeltaViews$GroupRule" (22 : Nat) ({ cls := "DeltaViews$Rows", name := "size", desc := "()I" } : Jvm.MethodName)) ∈ tblG := tg (i := 246) (by decide +kernel) (by decide +kernel)
theorem tw_211 : (Cond.methodLink "DeltaViews$GroupRule" (28 : Nat) ({ cls := "DeltaViews$Rows", name := "weightAt", desc := "(I)J" } : Jvm.MethodName)) ∈ tblG := tg (i := 247) (by decide +kernel) (by decide +kernel)
theorem tw_212 : (Cond.methodLink "DeltaViews$GroupRule" (32 : Nat) ({ cls := "DeltaViews$GroupRule", name := "isFirstOfItsKey", desc := "(LDeltaViews$Rows;I)Z" } : Jvm.MethodName)) ∈ tblG := tg (i := 248) (by decide +kernel) (by decide +kernel)
theorem tw_214 : (Cond.instanceMethod ({ cls := "DeltaViews$GroupRule", name := "isFirstOfItsKey", desc := "(LDeltaViews$Rows;I)Z" } : Jvm.MethodName)) ∈ tblG := tg (i := 250) (by decide +kernel) (by decide +kernel)
theorem tw_215 : (Cond.instantiable "DeltaViews$GroupRule" (4 : Nat)) ∈ tblG := tg (i := 251) (by decide +kernel) (by decide +kernel)
theorem tw_216 : (Cond.code ({ cls := "DeltaViews$GroupRule", name := "isFirstOfItsKey", desc := "(LDeltaViews$Rows;I)Z" } : Jvm.MethodName) prog_5_method_3_code (4 : Nat) (Option.some FieldType.boolean)) ∈ tblG := tg (i := 252) (by decide +kernel) (by decide +kernel)
theorem tw_217 : (Cond.methodLink "DeltaViews$GroupRule" (36 : Nat) ({ cls := "DeltaViews$Rows", name := "valueAt", desc := "(II)I" } : Jvm.MethodName)) ∈ tblG := tg (i := 253) (by decide +kernel) (by decide +kernel)
theorem tw_218 : (Cond.methodLink "DeltaViews$GroupRule" (48 : Nat) ({ cls := "DeltaViews$GroupRule", name := "isWith", desc := "(LDeltaViews$Rows;II)Z" } : Jvm.MethodName)) ∈ tblG := tg (i := 254) (by decide +kernel) (by decide +kernel)
theorem tw_220 : (Cond.instanceMethod ({ cls := "DeltaViews$GroupRule", name := "isWith", desc := "(LDeltaViews$Rows;II)Z" } : Jvm.MethodName)) ∈ tblG := tg (i := 256) (by decide +kernel) (by decide +kernel)
theorem tw_221 : (Cond.code ({ cls := "DeltaViews$GroupRule", name := "isWith", desc := "(LDeltaViews$Rows;II)Z" } : Jvm.MethodName) prog_5_method_4_code (4 : Nat) (Option.some FieldType.boolean)) ∈ tblG := tg (i := 257) (by decide +kernel) (by decide +kernel)
theorem tw_222 : (Cond.methodLink "DeltaViews$GroupRule" (40 : Nat) ({ cls := "DeltaViews$GroupRule", name := "valueFrom", desc := "(LDeltaViews$Rows;I)I" } : Jvm.MethodName)) ∈ tblG := tg (i := 258) (by decide +kernel) (by decide +kernel)
theorem tw_224 : (Cond.instanceMethod ({ cls := "DeltaViews$GroupRule", name := "valueFrom", desc := "(LDeltaViews$Rows;I)I" } : Jvm.MethodName)) ∈ tblG := tg (i := 260) (by decide +kernel) (by decide +kernel)
theorem tw_225 : (Cond.code ({ cls := "DeltaViews$GroupRule", name := "valueFrom", desc := "(LDeltaViews$Rows;I)I" } : Jvm.MethodName) prog_5_method_5_code (6 : Nat) (Option.some FieldType.int)) ∈ tblG := tg (i := 261) (by decide +kernel) (by decide +kernel)
theorem tw_226 : (Cond.methodLink "DeltaViews$GroupRule" (52 : Nat) ({ cls := "DeltaViews$GroupRule", name := "startValue", desc := "(LDeltaViews$Rows;I)I" } : Jvm.MethodName)) ∈ tblG := tg (i := 262) (by decide +kernel) (by decide +kernel)
theorem tw_228 : (Cond.instanceMethod ({ cls := "DeltaViews$GroupRule", name := "startValue", desc := "(LDeltaViews$Rows;I)I" } : Jvm.MethodName)) ∈ tblG := tg (i := 264) (by decide +kernel) (by decide +kernel)
theorem tw_229 : (Cond.code ({ cls := "DeltaViews$GroupRule", name := "startValue", desc := "(LDeltaViews$Rows;I)I" } : Jvm.MethodName) prog_5_method_6_code (3 : Nat) (Option.some FieldType.int)) ∈ tblG := tg (i := 265) (by decide +kernel) (by decide +kernel)
theorem tw_230 : (Cond.methodLink "DeltaViews$GroupRule" (55 : Nat) ({ cls := "DeltaViews$GroupRule", name := "joined", desc := "(II)I" } : Jvm.MethodName)) ∈ tblG := tg (i := 266) (by decide +kernel) (by decide +kernel)
theorem tw_232 : (Cond.instanceMethod ({ cls := "DeltaViews$GroupRule", name := "joined", desc := "(II)I" } : Jvm.MethodName)) ∈ tblG := tg (i := 268) (by decide +kernel) (by decide +kernel)
theorem tw_233 : (Cond.code ({ cls := "DeltaViews$GroupRule", name := "joined", desc := "(II)I" } : Jvm.MethodName) prog_5_method_7_code (3 : Nat) (Option.some FieldType.int)) ∈ tblG := tg (i := 269) (by decide +kernel) (by decide +kernel)
theorem tw_234 : (Cond.methodLink "DeltaViews$GroupRule" (58 : Nat) ({ cls := "java/lang/Math", name := "min", desc := "(II)I" } : Jvm.MethodName)) ∈ tblG := tg (i := 270) (by decide +kernel) (by decide +kernel)
theorem tw_235 : (Cond.methodLink "DeltaViews$GroupRule" (63 : Nat) ({ cls := "java/lang/Math", name := "max", desc := "(II)I" } : Jvm.MethodName)) ∈ tblG := tg (i := 271) (by decide +kernel) (by decide +kernel)
theorem tw_236 : (Cond.static ({ cls := "java/lang/Math", name := "max", desc := "(II)I" } : Jvm.MethodName)) ∈ tblG := tg (i := 272) (by decide +kernel) (by decide +kernel)
theorem tw_237 : (Cond.code ({ cls := "java/lang/Math", name := "max", desc := "(II)I" } : Jvm.MethodName) prog_14_method_65_code (2 : Nat) (Option.some FieldType.int)) ∈ tblG := tg (i := 273) (by decide +kernel) (by decide +kernel)
theorem tw_238 : (Cond.methodLink "DeltaViews$GroupRule" (44 : Nat) ({ cls := "DeltaViews$Rows", name := "addWeight", desc := "(IIIJ)V" } : Jvm.MethodName)) ∈ tblG := tg (i := 274) (by decide +kernel) (by decide +kernel)
theorem tw_240 : (Cond.selects "DeltaViews$JoinRule" ({ cls := "DeltaViews$Rule", name := "fill", desc := "([LDeltaViews$Rows;LDeltaViews$Rows;)V" } : Jvm.MethodName) ({ cls := "DeltaViews$JoinRule", name := "fill", desc := "([LDeltaViews$Rows;LDeltaViews$Rows;)V" } : Jvm.MethodName)) ∈ tblG := tg (i := 276) (by decide +kernel) (by decide +kernel)
theorem tw_242 : (Cond.instanceMethod ({ cls := "DeltaViews$JoinRule", name := "fill", desc := "([LDeltaViews$Rows;LDeltaViews$Rows;)V" } : Jvm.MethodName)) ∈ tblG := tg (i := 278) (by decide +kernel) (by decide +kernel)
theorem tw_244 : (Cond.code ({ cls := "DeltaViews$JoinRule", name := "fill", desc := "([LDeltaViews$Rows;LDeltaViews$Rows;)V" } : Jvm.MethodName) prog_6_method_2_code (10 : Nat) (Option.none : Option Jvm.ClassFile.FieldType)) ∈ tblG := tg (i := 280) (by decide +kernel) (by decide +kernel)
theorem tw_245 : (Cond.methodLink "DeltaViews$JoinRule" (27 : Nat) ({ cls := "DeltaViews$Rows", name := "size", desc := "()I" } : Jvm.MethodName)) ∈ tblG := tg (i := 281) (by decide +kernel) (by decide +kernel)
theorem tw_246 : (Cond.methodLink "DeltaViews$JoinRule" (33 : Nat) ({ cls := "DeltaViews$Rows", name := "valueAt", desc := "(II)I" } : Jvm.MethodName)) ∈ tblG := tg (i := 282) (by decide +kernel) (by decide +kernel)
theorem tw_247 : (Cond.methodLink "DeltaViews$JoinRule" (37 : Nat) ({ cls := "DeltaViews$JoinRule", name := "picked", desc := "(LDeltaViews$Rows;ILDeltaViews$Rows;II)I" } : Jvm.MethodName)) ∈ tblG := tg (i := 283) (by decide +kernel) (by decide +kernel)
theorem tw_248 : (Cond.static ({ cls := "DeltaViews$JoinRule", name := "picked", desc := "(LDeltaViews$Rows;ILDeltaViews$Rows;II)I" } : Jvm.MethodName)) ∈ tblG := tg (i := 284) (by decide +kernel) (by decide +kernel)
theorem tw_249 : (Cond.code ({ cls := "DeltaViews$JoinRule", name := "picked", desc := "(LDeltaViews$Rows;ILDeltaViews$Rows;II)I" } : Jvm.MethodName) prog_6_method_3_code (5 : Nat) (Option.some FieldType.int)) ∈ tblG := tg (i := 285) (by decide +kernel) (by decide +kernel)
theorem tw_250 : (Cond.methodLink "DeltaViews$JoinRule" (41 : Nat) ({ cls := "DeltaViews$Rows", name := "weightAt", desc := "(I)J" } : Jvm.MethodName)) ∈ tblG := tg (i := 286) (by decide +kernel) (by decide +kernel)
theorem tw_251 : (Cond.methodLink "DeltaViews$JoinRule" (45 : Nat) ({ cls := "DeltaViews$Rows", name := "addWeight", desc := "(IIIJ)V" } : Jvm.MethodName)) ∈ tblG := tg (i := 287) (by decide +kernel) (by decide +kernel)
theorem tw_253 : (Cond.selects "DeltaViews$MapRule" ({ cls := "DeltaViews$Rule", name := "fill", desc := "([LDeltaViews$Rows;LDeltaViews$Rows;)V" } : Jvm.MethodName) ({ cls := "DeltaViews$MapRule", name := "fill", desc := "([LDeltaViews$Rows;LDeltaViews$Rows;)V" } : Jvm.MethodName)) ∈ tblG := tg (i := 289) (by decide +kernel) (by decide +kernel)
theorem tw_255 : (Cond.instanceMethod ({ cls := "DeltaViews$MapRule", name := "fill", desc := "([LDeltaViews$Rows;LDeltaViews$Rows;)V" } : Jvm.MethodName)) ∈ tblG := tg (i := 291) (by decide +kernel) (by decide +kernel)
theorem tw_257 : (Cond.code ({ cls := "DeltaViews$MapRule", name := "fill", desc := "([LDeltaViews$Rows;LDeltaViews$Rows;)V" } : Jvm.MethodName) prog_7_method_2_code (5 : Nat) (Option.none : Option Jvm.ClassFile.FieldType)) ∈ tblG := tg (i := 293) (by decide +kernel) (by decide +kernel)
theorem tw_258 : (Cond.methodLink "DeltaViews$MapRule" (22 : Nat) ({ cls := "DeltaViews$Rows", name := "size", desc := "()I" } : Jvm.MethodName)) ∈ tblG := tg (i := 294) (by decide +kernel) (by decide +kernel)
theorem tw_259 : (Cond.methodLink "DeltaViews$MapRule" (28 : Nat) ({ cls := "DeltaViews$MapRule", name := "coded", desc := "(LDeltaViews$Rows;II)I" } : Jvm.MethodName)) ∈ tblG := tg (i := 295) (by decide +kernel) (by decide +kernel)
theorem tw_260 : (Cond.static ({ cls := "DeltaViews$MapRule", name := "coded", desc := "(LDeltaViews$Rows;II)I" } : Jvm.MethodName)) ∈ tblG := tg (i := 296) (by decide +kernel) (by decide +kernel)
theorem tw_261 : (Cond.code ({ cls := "DeltaViews$MapRule", name := "coded", desc := "(LDeltaViews$Rows;II)I" } : Jvm.MethodName) prog_7_method_3_code (3 : Nat) (Option.some FieldType.int)) ∈ tblG := tg (i := 297) (by decide +kernel) (by decide +kernel)
theorem tw_262 : (Cond.methodLink "DeltaViews$MapRule" (40 : Nat) ({ cls := "DeltaViews$Rows", name := "valueAt", desc := "(II)I" } : Jvm.MethodName)) ∈ tblG := tg (i := 298) (by decide +kernel) (by decide +kernel)
theorem tw_263 : (Cond.methodLink "DeltaViews$MapRule" (32 : Nat) ({ cls := "DeltaViews$Rows", name := "weightAt", desc := "(I)J" } : Jvm.MethodName)) ∈ tblG := tg (i := 299) (by decide +kernel) (by decide +kernel)
theorem tw_264 : (Cond.methodLink "DeltaViews$MapRule" (36 : Nat) ({ cls := "DeltaViews$Rows", name := "addWeight", desc := "(IIIJ)V" } : Jvm.MethodName)) ∈ tblG := tg (i := 300) (by decide +kernel) (by decide +kernel)
theorem tw_266 : (Cond.selects "DeltaViews$TableRule" ({ cls := "DeltaViews$Rule", name := "fill", desc := "([LDeltaViews$Rows;LDeltaViews$Rows;)V" } : Jvm.MethodName) ({ cls := "DeltaViews$TableRule", name := "fill", desc := "([LDeltaViews$Rows;LDeltaViews$Rows;)V" } : Jvm.MethodName)) ∈ tblG := tg (i := 302) (by decide +kernel) (by decide +kernel)
theorem tw_268 : (Cond.instanceMethod ({ cls := "DeltaViews$TableRule", name := "fill", desc := "([LDeltaViews$Rows;LDeltaViews$Rows;)V" } : Jvm.MethodName)) ∈ tblG := tg (i := 304) (by decide +kernel) (by decide +kernel)
theorem tw_270 : (Cond.code ({ cls := "DeltaViews$TableRule", name := "fill", desc := "([LDeltaViews$Rows;LDeltaViews$Rows;)V" } : Jvm.MethodName) prog_11_method_2_code (3 : Nat) (Option.none : Option Jvm.ClassFile.FieldType)) ∈ tblG := tg (i := 306) (by decide +kernel) (by decide +kernel)
theorem tw_271 : (Cond.methodLink "DeltaViews$TableRule" (13 : Nat) ({ cls := "DeltaViews$Rows", name := "copyFrom", desc := "(LDeltaViews$Rows;)V" } : Jvm.MethodName)) ∈ tblG := tg (i := 307) (by decide +kernel) (by decide +kernel)
theorem tw_272 : (Cond.methodLink "DeltaViews" (73 : Nat) ({ cls := "DeltaViews", name := "slotOf", desc := "(I)I" } : Jvm.MethodName)) ∈ tblG := tg (i := 308) (by decide +kernel) (by decide +kernel)
theorem tw_273 : (Cond.static ({ cls := "DeltaViews", name := "slotOf", desc := "(I)I" } : Jvm.MethodName)) ∈ tblG := tg (i := 309) (by decide +kernel) (by decide +kernel)
theorem tw_274 : (Cond.code ({ cls := "DeltaViews", name := "slotOf", desc := "(I)I" } : Jvm.MethodName) prog_1_method_25_code (1 : Nat) (Option.some FieldType.int)) ∈ tblG := tg (i := 310) (by decide +kernel) (by decide +kernel)
theorem tw_275 : (Cond.methodLink "DeltaViews" (152 : Nat) ({ cls := "DeltaViews", name := "settleWork", desc := "(LDeltaViews$Rows;)Z" } : Jvm.MethodName)) ∈ tblG := tg (i := 311) (by decide +kernel) (by decide +kernel)
theorem tw_277 : (Cond.instanceMethod ({ cls := "DeltaViews", name := "settleWork", desc := "(LDeltaViews$Rows;)Z" } : Jvm.MethodName)) ∈ tblG := tg (i := 313) (by decide +kernel) (by decide +kernel)
theorem tw_278 : (Cond.code ({ cls := "DeltaViews", name := "settleWork", desc := "(LDeltaViews$Rows;)Z" } : Jvm.MethodName) prog_1_method_29_code (2 : Nat) (Option.some FieldType.boolean)) ∈ tblG := tg (i := 314) (by decide +kernel) (by decide +kernel)
theorem tw_279 : (Cond.methodLink "DeltaViews" (156 : Nat) ({ cls := "DeltaViews$Rows", name := "dropZeros", desc := "()V" } : Jvm.MethodName)) ∈ tblG := tg (i := 315) (by decide +kernel) (by decide +kernel)
theorem tw_280 : (Cond.instanceMethod ({ cls := "DeltaViews$Rows", name := "dropZeros", desc := "()V" } : Jvm.MethodName)) ∈ tblG := tg (i := 316) (by decide +kernel) (by decide +kernel)
theorem tw_281 : (Cond.selects "DeltaViews$Rows" ({ cls := "DeltaViews$Rows", name := "dropZeros", desc := "()V" } : Jvm.MethodName) ({ cls := "DeltaViews$Rows", name := "dropZeros", desc := "()V" } : Jvm.MethodName)) ∈ tblG := tg (i := 317) (by decide +kernel) (by decide +kernel)
theorem tw_282 : (Cond.code ({ cls := "DeltaViews$Rows", name := "dropZeros", desc := "()V" } : Jvm.MethodName) prog_9_method_10_code (3 : Nat) (Option.none : Option Jvm.ClassFile.FieldType)) ∈ tblG := tg (i := 318) (by decide +kernel) (by decide +kernel)
theorem tw_283 : (Cond.methodLink "DeltaViews" (159 : Nat) ({ cls := "DeltaViews$Rows", name := "canHold", desc := "(LDeltaViews$Rows;)Z" } : Jvm.MethodName)) ∈ tblG := tg (i := 319) (by decide +kernel) (by decide +kernel)
theorem tw_284 : (Cond.instanceMethod ({ cls := "DeltaViews$Rows", name := "canHold", desc := "(LDeltaViews$Rows;)Z" } : Jvm.MethodName)) ∈ tblG := tg (i := 320) (by decide +kernel) (by decide +kernel)
theorem tw_285 : (Cond.selects "DeltaViews$Rows" ({ cls := "DeltaViews$Rows", name := "canHold", desc := "(LDeltaViews$Rows;)Z" } : Jvm.MethodName) ({ cls := "DeltaViews$Rows", name := "canHold", desc := "(LDeltaViews$Rows;)Z" } : Jvm.MethodName)) ∈ tblG := tg (i := 321) (by decide +kernel) (by decide +kernel)
theorem tw_286 : (Cond.code ({ cls := "DeltaViews$Rows", name := "canHold", desc := "(LDeltaViews$Rows;)Z" } : Jvm.MethodName) prog_9_method_12_code (3 : Nat) (Option.some FieldType.boolean)) ∈ tblG := tg (i := 322) (by decide +kernel) (by decide +kernel)
theorem tw_287 : (Cond.constantLong "DeltaViews$Rows" (54 : Nat) (1000000 : Int64)) ∈ tblG := tg (i := 323) (by decide +kernel) (by decide +kernel)
theorem tw_288 : (Cond.constantLong "DeltaViews$Rows" (56 : Nat) (-1000000 : Int64)) ∈ tblG := tg (i := 324) (by decide +kernel) (by decide +kernel)
theorem tw_289 : (Cond.methodLink "DeltaViews" (162 : Nat) ({ cls := "DeltaViews$Rows", name := "copyFrom", desc := "(LDeltaViews$Rows;)V" } : Jvm.MethodName)) ∈ tblG := tg (i := 325) (by decide +kernel) (by decide +kernel)
theorem tw_290 : (Cond.methodLink "DeltaViewsLaw" (18 : Nat) ({ cls := "DeltaViews", name := "filter", desc := "(IIII)I" } : Jvm.MethodName)) ∈ tblG := tg (i := 326) (by decide +kernel) (by decide +kernel)
theorem tw_291 : (Cond.instanceMethod ({ cls := "DeltaViews", name := "filter", desc := "(IIII)I" } : Jvm.MethodName)) ∈ tblG := tg (i := 327) (by decide +kernel) (by decide +kernel)
theorem tw_292 : (Cond.selects "DeltaViews" ({ cls := "DeltaViews", name := "filter", desc := "(IIII)I" } : Jvm.MethodName) ({ cls := "DeltaViews", name := "filter", desc := "(IIII)I" } : Jvm.MethodName)) ∈ tblG := tg (i := 328) (by decide +kernel) (by decide +kernel)
theorem tw_293 : (Cond.code ({ cls := "DeltaViews", name := "filter", desc := "(IIII)I" } : Jvm.MethodName) prog_1_method_3_code (5 : Nat) (Option.some FieldType.int)) ∈ tblG := tg (i := 329) (by decide +kernel) (by decide +kernel)
theorem tw_294 : (Cond.methodLink "DeltaViews" (61 : Nat) ({ cls := "DeltaViews", name := "isNode", desc := "(I)Z" } : Jvm.MethodName)) ∈ tblG := tg (i := 330) (by decide +kernel) (by decide +kernel)
theorem tw_296 : (Cond.instanceMethod ({ cls := "DeltaViews", name := "isNode", desc := "(I)Z" } : Jvm.MethodName)) ∈ tblG := tg (i := 332) (by decide +kernel) (by decide +kernel)
theorem tw_297 : (Cond.code ({ cls := "DeltaViews", name := "isNode", desc := "(I)Z" } : Jvm.MethodName) prog_1_method_24_code (2 : Nat) (Option.some FieldType.boolean)) ∈ tblG := tg (i := 333) (by decide +kernel) (by decide +kernel)
theorem tw_298 : (Cond.methodLink "DeltaViews" (64 : Nat) ({ cls := "DeltaViews", name := "isColumn", desc := "(I)Z" } : Jvm.MethodName)) ∈ tblG := tg (i := 334) (by decide +kernel) (by decide +kernel)
theorem tw_299 : (Cond.static ({ cls := "DeltaViews", name := "isColumn", desc := "(I)Z" } : Jvm.MethodName)) ∈ tblG := tg (i := 335) (by decide +kernel) (by decide +kernel)
theorem tw_300 : (Cond.code ({ cls := "DeltaViews", name := "isColumn", desc := "(I)Z" } : Jvm.MethodName) prog_1_method_22_code (1 : Nat) (Option.some FieldType.boolean)) ∈ tblG := tg (i := 336) (by decide +kernel) (by decide +kernel)
theorem tw_301 : (Cond.classLink "DeltaViews" (71 : Nat) "DeltaViews$FilterRule") ∈ tblG := tg (i := 337) (by decide +kernel) (by decide +kernel)
theorem tw_303 : (Cond.instanceMethod ({ cls := "DeltaViews$FilterRule", name := "<init>", desc := "(IIII)V" } : Jvm.MethodName)) ∈ tblG := tg (i := 339) (by decide +kernel) (by decide +kernel)
theorem tw_304 : (Cond.code ({ cls := "DeltaViews$FilterRule", name := "<init>", desc := "(IIII)V" } : Jvm.MethodName) prog_4_method_1_code (5 : Nat) (Option.none : Option Jvm.ClassFile.FieldType)) ∈ tblG := tg (i := 340) (by decide +kernel) (by decide +kernel)
theorem tw_305 : (Cond.methodLink "DeltaViews$FilterRule" (1 : Nat) ({ cls := "java/lang/Record", name := "<init>", desc := "()V" } : Jvm.MethodName)) ∈ tblG := tg (i := 341) (by decide +kernel) (by decide +kernel)
theorem tw_306 : (Cond.fieldLink "DeltaViews$FilterRule" (7 : Nat) "DeltaViews$FilterRule" "input" "I") ∈ tblG := tg (i := 342) (by decide +kernel) (by decide +kernel)
theorem tw_307 : (Cond.fieldLink "DeltaViews$FilterRule" (13 : Nat) "DeltaViews$FilterRule" "column" "I") ∈ tblG := tg (i := 343) (by decide +kernel) (by decide +kernel)
theorem tw_308 : (Cond.fieldLink "DeltaViews$FilterRule" (16 : Nat) "DeltaViews$FilterRule" "test" "I") ∈ tblG := tg (i := 344) (by decide +kernel) (by decide +kernel)
theorem tw_309 : (Cond.fieldLink "DeltaViews$FilterRule" (19 : Nat) "DeltaViews$FilterRule" "number" "I") ∈ tblG := tg (i := 345) (by decide +kernel) (by decide +kernel)
theorem tw_310 : (Cond.laysFinal "DeltaViews$FilterRule" "DeltaViews$FilterRule" "input" "I") ∈ tblG := tg (i := 346) (by decide +kernel) (by decide +kernel)
theorem tw_312 : (Cond.laysFinal "DeltaViews$FilterRule" "DeltaViews$FilterRule" "column" "I") ∈ tblG := tg (i := 348) (by decide +kernel) (by decide +kernel)
theorem tw_314 : (Cond.laysFinal "DeltaViews$FilterRule" "DeltaViews$FilterRule" "test" "I") ∈ tblG := tg (i := 350) (by decide +kernel) (by decide +kernel)
theorem tw_316 : (Cond.laysFinal "DeltaViews$FilterRule" "DeltaViews$FilterRule" "number" "I") ∈ tblG := tg (i := 352) (by decide +kernel) (by decide +kernel)
theorem tw_319 : (Cond.methodLink "DeltaViewsLaw" (23 : Nat) ({ cls := "DeltaViews", name := "map", desc := "(IIII)I" } : Jvm.MethodName)) ∈ tblG := tg (i := 355) (by decide +kernel) (by decide +kernel)
theorem tw_320 : (Cond.instanceMethod ({ cls := "DeltaViews", name := "map", desc := "(IIII)I" } : Jvm.MethodName)) ∈ tblG := tg (i := 356) (by decide +kernel) (by decide +kernel)
theorem tw_321 : (Cond.selects "DeltaViews" ({ cls := "DeltaViews", name := "map", desc := "(IIII)I" } : Jvm.MethodName) ({ cls := "DeltaViews", name := "map", desc := "(IIII)I" } : Jvm.MethodName)) ∈ tblG := tg (i := 357) (by decide +kernel) (by decide +kernel)
theorem tw_322 : (Cond.code ({ cls := "DeltaViews", name := "map", desc := "(IIII)I" } : Jvm.MethodName) prog_1_method_4_code (5 : Nat) (Option.some FieldType.int)) ∈ tblG := tg (i := 358) (by decide +kernel) (by decide +kernel)
theorem tw_323 : (Cond.classLink "DeltaViews" (80 : Nat) "DeltaViews$MapRule") ∈ tblG := tg (i := 359) (by decide +kernel) (by decide +kernel)
theorem tw_324 : (Cond.instantiable "DeltaViews$MapRule" (4 : Nat)) ∈ tblG := tg (i := 360) (by decide +kernel) (by decide +kernel)
theorem tw_326 : (Cond.instanceMethod ({ cls := "DeltaViews$MapRule", name := "<init>", desc := "(IIII)V" } : Jvm.MethodName)) ∈ tblG := tg (i := 362) (by decide +kernel) (by decide +kernel)
theorem tw_327 : (Cond.code ({ cls := "DeltaViews$MapRule", name := "<init>", desc := "(IIII)V" } : Jvm.MethodName) prog_7_method_1_code (5 : Nat) (Option.none : Option Jvm.ClassFile.FieldType)) ∈ tblG := tg (i := 363) (by decide +kernel) (by decide +kernel)
theorem tw_328 : (Cond.methodLink "DeltaViews$MapRule" (1 : Nat) ({ cls := "java/lang/Record", name := "<init>", desc := "()V" } : Jvm.MethodName)) ∈ tblG := tg (i := 364) (by decide +kernel) (by decide +kernel)
theorem tw_329 : (Cond.fieldLink "DeltaViews$MapRule" (7 : Nat) "DeltaViews$MapRule" "input" "I") ∈ tblG := tg (i := 365) (by decide +kernel) (by decide +kernel)
theorem tw_330 : (Cond.fieldLink "DeltaViews$MapRule" (13 : Nat) "DeltaViews$MapRule" "x" "I") ∈ tblG := tg (i := 366) (by decide +kernel) (by decide +kernel)
theorem tw_331 : (Cond.fieldLink "DeltaViews$MapRule" (16 : Nat) "DeltaViews$MapRule" "y" "I") ∈ tblG := tg (i := 367) (by decide +kernel) (by decide +kernel)
theorem tw_332 : (Cond.fieldLink "DeltaViews$MapRule" (19 : Nat) "DeltaViews$MapRule" "z" "I") ∈ tblG := tg (i := 368) (by decide +kernel) (by decide +kernel)
theorem tw_333 : (Cond.laysFinal "DeltaViews$MapRule" "DeltaViews$MapRule" "input" "I") ∈ tblG := tg (i := 369) (by decide +kernel) (by decide +kernel)
theorem tw_335 : (Cond.laysFinal "DeltaViews$MapRule" "DeltaViews$MapRule" "x" "I") ∈ tblG := tg (i := 371) (by decide +kernel) (by decide +kernel)
theorem tw_337 : (Cond.laysFinal "DeltaViews$MapRule" "DeltaViews$MapRule" "y" "I") ∈ tblG := tg (i := 373) (by decide +kernel) (by decide +kernel)
theorem tw_339 : (Cond.laysFinal "DeltaViews$MapRule" "DeltaViews$MapRule" "z" "I") ∈ tblG := tg (i := 375) (by decide +kernel) (by decide +kernel)
theorem tw_342 : (Cond.methodLink "DeltaViewsLaw" (27 : Nat) ({ cls := "DeltaViews", name := "join", desc := "(IIIII)I" } : Jvm.MethodName)) ∈ tblG := tg (i := 378) (by decide +kernel) (by decide +kernel)
theorem tw_343 : (Cond.instanceMethod ({ cls := "DeltaViews", name := "join", desc := "(IIIII)I" } : Jvm.MethodName)) ∈ tblG := tg (i := 379) (by decide +kernel) (by decide +kernel)
theorem tw_344 : (Cond.selects "DeltaViews" ({ cls := "DeltaViews", name := "join", desc := "(IIIII)I" } : Jvm.MethodName) ({ cls := "DeltaViews", name := "join", desc := "(IIIII)I" } : Jvm.MethodName)) ∈ tblG := tg (i := 380) (by decide +kernel) (by decide +kernel)
theorem tw_345 : (Cond.code ({ cls := "DeltaViews", name := "join", desc := "(IIIII)I" } : Jvm.MethodName) prog_1_method_5_code (6 : Nat) (Option.some FieldType.int)) ∈ tblG := tg (i := 381) (by decide +kernel) (by decide +kernel)
theorem tw_346 : (Cond.classLink "DeltaViews" (83 : Nat) "DeltaViews$JoinRule") ∈ tblG := tg (i := 382) (by decide +kernel) (by decide +kernel)
theorem tw_347 : (Cond.instantiable "DeltaViews$JoinRule" (5 : Nat)) ∈ tblG := tg (i := 383) (by decide +kernel) (by decide +kernel)
theorem tw_349 : (Cond.instanceMethod ({ cls := "DeltaViews$JoinRule", name := "<init>", desc := "(IIIII)V" } : Jvm.MethodName)) ∈ tblG := tg (i := 385) (by decide +kernel) (by decide +kernel)
theorem tw_350 : (Cond.code ({ cls := "DeltaViews$JoinRule", name := "<init>", desc := "(IIIII)V" } : Jvm.MethodName) prog_6_method_1_code (6 : Nat) (Option.none : Option Jvm.ClassFile.FieldType)) ∈ tblG := tg (i := 386) (by decide +kernel) (by decide +kernel)
theorem tw_351 : (Cond.methodLink "DeltaViews$JoinRule" (3 : Nat) ({ cls := "java/lang/Record", name := "<init>", desc := "()V" } : Jvm.MethodName)) ∈ tblG := tg (i := 387) (by decide +kernel) (by decide +kernel)
theorem tw_352 : (Cond.fieldLink "DeltaViews$JoinRule" (9 : Nat) "DeltaViews$JoinRule" "left" "I") ∈ tblG := tg (i := 388) (by decide +kernel) (by decide +kernel)
theorem tw_353 : (Cond.fieldLink "DeltaViews$JoinRule" (15 : Nat) "DeltaViews$JoinRule" "right" "I") ∈ tblG := tg (i := 389) (by decide +kernel) (by decide +kernel)
theorem tw_354 : (Cond.fieldLink "DeltaViews$JoinRule" (18 : Nat) "DeltaViews$JoinRule" "leftColumn" "I") ∈ tblG := tg (i := 390) (by decide +kernel) (by decide +kernel)
theorem tw_355 : (Cond.fieldLink "DeltaViews$JoinRule" (21 : Nat) "DeltaViews$JoinRule" "rightColumn" "I") ∈ tblG := tg (i := 391) (by decide +kernel) (by decide +kernel)
theorem tw_356 : (Cond.fieldLink "DeltaViews$JoinRule" (24 : Nat) "DeltaViews$JoinRule" "pick" "I") ∈ tblG := tg (i := 392) (by decide +kernel) (by decide +kernel)
theorem tw_357 : (Cond.laysFinal "DeltaViews$JoinRule" "DeltaViews$JoinRule" "left" "I") ∈ tblG := tg (i := 393) (by decide +kernel) (by decide +kernel)
theorem tw_359 : (Cond.laysFinal "DeltaViews$JoinRule" "DeltaViews$JoinRule" "right" "I") ∈ tblG := tg (i := 395) (by decide +kernel) (by decide +kernel)
theorem tw_361 : (Cond.laysFinal "DeltaViews$JoinRule" "DeltaViews$JoinRule" "leftColumn" "I") ∈ tblG := tg (i := 397) (by decide +kernel) (by decide +kernel)
theorem tw_363 : (Cond.laysFinal "DeltaViews$JoinRule" "DeltaViews$JoinRule" "rightColumn" "I") ∈ tblG := tg (i := 399) (by decide +kernel) (by decide +kernel)
theorem tw_365 : (Cond.laysFinal "DeltaViews$JoinRule" "DeltaViews$JoinRule" "pick" "I") ∈ tblG := tg (i := 401) (by decide +kernel) (by decide +kernel)
theorem tw_368 : (Cond.methodLink "DeltaViewsLaw" (32 : Nat) ({ cls := "DeltaViews", name := "combine", desc := "(III)I" } : Jvm.MethodName)) ∈ tblG := tg (i := 404) (by decide +kernel) (by decide +kernel)
theorem tw_369 : (Cond.instanceMethod ({ cls := "DeltaViews", name := "combine", desc := "(III)I" } : Jvm.MethodName)) ∈ tblG := tg (i := 405) (by decide +kernel) (by decide +kernel)
theorem tw_370 : (Cond.selects "DeltaViews" ({ cls := "DeltaViews", name := "combine", desc := "(III)I" } : Jvm.MethodName) ({ cls := "DeltaViews", name := "combine", desc := "(III)I" } : Jvm.MethodName)) ∈ tblG := tg (i := 406) (by decide +kernel) (by decide +kernel)
theorem tw_371 : (Cond.code ({ cls := "DeltaViews", name := "combine", desc := "(III)I" } : Jvm.MethodName) prog_1_method_6_code (4 : Nat) (Option.some FieldType.int)) ∈ tblG := tg (i := 407) (by decide +kernel) (by decide +kernel)
theorem tw_372 : (Cond.classLink "DeltaViews" (88 : Nat) "DeltaViews$CombineRule") ∈ tblG := tg (i := 408) (by decide +kernel) (by decide +kernel)
theorem tw_373 : (Cond.instantiable "DeltaViews$CombineRule" (3 : Nat)) ∈ tblG := tg (i := 409) (by decide +kernel) (by decide +kernel)
theorem tw_375 : (Cond.instanceMethod ({ cls := "DeltaViews$CombineRule", name := "<init>", desc := "(III)V" } : Jvm.MethodName)) ∈ tblG := tg (i := 411) (by decide +kernel) (by decide +kernel)
theorem tw_376 : (Cond.code ({ cls := "DeltaViews$CombineRule", name := "<init>", desc := "(III)V" } : Jvm.MethodName) prog_2_method_1_code (4 : Nat) (Option.none : Option Jvm.ClassFile.FieldType)) ∈ tblG := tg (i := 412) (by decide +kernel) (by decide +kernel)
theorem tw_377 : (Cond.methodLink "DeltaViews$CombineRule" (1 : Nat) ({ cls := "java/lang/Record", name := "<init>", desc := "()V" } : Jvm.MethodName)) ∈ tblG := tg (i := 413) (by decide +kernel) (by decide +kernel)
theorem tw_378 : (Cond.fieldLink "DeltaViews$CombineRule" (7 : Nat) "DeltaViews$CombineRule" "left" "I") ∈ tblG := tg (i := 414) (by decide +kernel) (by decide +kernel)
theorem tw_379 : (Cond.fieldLink "DeltaViews$CombineRule" (13 : Nat) "DeltaViews$CombineRule" "right" "I") ∈ tblG := tg (i := 415) (by decide +kernel) (by decide +kernel)
theorem tw_380 : (Cond.fieldLink "DeltaViews$CombineRule" (16 : Nat) "DeltaViews$CombineRule" "kind" "I") ∈ tblG := tg (i := 416) (by decide +kernel) (by decide +kernel)
theorem tw_381 : (Cond.laysFinal "DeltaViews$CombineRule" "DeltaViews$CombineRule" "left" "I") ∈ tblG := tg (i := 417) (by decide +kernel) (by decide +kernel)
theorem tw_383 : (Cond.laysFinal "DeltaViews$CombineRule" "DeltaViews$CombineRule" "right" "I") ∈ tblG := tg (i := 419) (by decide +kernel) (by decide +kernel)
theorem tw_385 : (Cond.laysFinal "DeltaViews$CombineRule" "DeltaViews$CombineRule" "kind" "I") ∈ tblG := tg (i := 421) (by decide +kernel) (by decide +kernel)
theorem tw_388 : (Cond.methodLink "DeltaViewsLaw" (37 : Nat) ({ cls := "DeltaViews", name := "distinct", desc := "(I)I" } : Jvm.MethodName)) ∈ tblG := tg (i := 424) (by decide +kernel) (by decide +kernel)
theorem tw_389 : (Cond.instanceMethod ({ cls := "DeltaViews", name := "distinct", desc := "(I)I" } : Jvm.MethodName)) ∈ tblG := tg (i := 425) (by decide +kernel) (by decide +kernel)
theorem tw_390 : (Cond.selects "DeltaViews" ({ cls := "DeltaViews", name := "distinct", desc := "(I)I" } : Jvm.MethodName) ({ cls := "DeltaViews", name := "distinct", desc := "(I)I" } : Jvm.MethodName)) ∈ tblG := tg (i := 426) (by decide +kernel) (by decide +kernel)
theorem tw_391 : (Cond.code ({ cls := "DeltaViews", name := "distinct", desc := "(I)I" } : Jvm.MethodName) prog_1_method_7_code (2 : Nat) (Option.some FieldType.int)) ∈ tblG := tg (i := 427) (by decide +kernel) (by decide +kernel)
theorem tw_392 : (Cond.classLink "DeltaViews" (93 : Nat) "DeltaViews$DistinctRule") ∈ tblG := tg (i := 428) (by decide +kernel) (by decide +kernel)
theorem tw_393 : (Cond.instantiable "DeltaViews$DistinctRule" (1 : Nat)) ∈ tblG := tg (i := 429) (by decide +kernel) (by decide +kernel)
theorem tw_395 : (Cond.instanceMethod ({ cls := "DeltaViews$DistinctRule", name := "<init>", desc := "(I)V" } : Jvm.MethodName)) ∈ tblG := tg (i := 431) (by decide +kernel) (by decide +kernel)
theorem tw_396 : (Cond.code ({ cls := "DeltaViews$DistinctRule", name := "<init>", desc := "(I)V" } : Jvm.MethodName) prog_3_method_1_code (2 : Nat) (Option.none : Option Jvm.ClassFile.FieldType)) ∈ tblG := tg (i := 432) (by decide +kernel) (by decide +kernel)
theorem tw_397 : (Cond.methodLink "DeltaViews$DistinctRule" (1 : Nat) ({ cls := "java/lang/Record", name := "<init>", desc := "()V" } : Jvm.MethodName)) ∈ tblG := tg (i := 433) (by decide +kernel) (by decide +kernel)
theorem tw_398 : (Cond.fieldLink "DeltaViews$DistinctRule" (7 : Nat) "DeltaViews$DistinctRule" "input" "I") ∈ tblG := tg (i := 434) (by decide +kernel) (by decide +kernel)
theorem tw_399 : (Cond.laysFinal "DeltaViews$DistinctRule" "DeltaViews$DistinctRule" "input" "I") ∈ tblG := tg (i := 435) (by decide +kernel) (by decide +kernel)
theorem tw_402 : (Cond.methodLink "DeltaViewsLaw" (41 : Nat) ({ cls := "DeltaViews", name := "group", desc := "(IIII)I" } : Jvm.MethodName)) ∈ tblG := tg (i := 438) (by decide +kernel) (by decide +kernel)
theorem tw_403 : (Cond.instanceMethod ({ cls := "DeltaViews", name := "group", desc := "(IIII)I" } : Jvm.MethodName)) ∈ tblG := tg (i := 439) (by decide +kernel) (by decide +kernel)
theorem tw_404 : (Cond.selects "DeltaViews" ({ cls := "DeltaViews", name := "group", desc := "(IIII)I" } : Jvm.MethodName) ({ cls := "DeltaViews", name := "group", desc := "(IIII)I" } : Jvm.MethodName)) ∈ tblG := tg (i := 440) (by decide +kernel) (by decide +kernel)
theorem tw_405 : (Cond.code ({ cls := "DeltaViews", name := "group", desc := "(IIII)I" } : Jvm.MethodName) prog_1_method_8_code (5 : Nat) (Option.some FieldType.int)) ∈ tblG := tg (i := 441) (by decide +kernel) (by decide +kernel)
theorem tw_406 : (Cond.classLink "DeltaViews" (96 : Nat) "DeltaViews$GroupRule") ∈ tblG := tg (i := 442) (by decide +kernel) (by decide +kernel)
theorem tw_408 : (Cond.instanceMethod ({ cls := "DeltaViews$GroupRule", name := "<init>", desc := "(IIII)V" } : Jvm.MethodName)) ∈ tblG := tg (i := 444) (by decide +kernel) (by decide +kernel)
theorem tw_409 : (Cond.code ({ cls := "DeltaViews$GroupRule", name := "<init>", desc := "(IIII)V" } : Jvm.MethodName) prog_5_method_1_code (5 : Nat) (Option.none : Option Jvm.ClassFile.FieldType)) ∈ tblG := tg (i := 445) (by decide +kernel) (by decide +kernel)
theorem tw_410 : (Cond.methodLink "DeltaViews$GroupRule" (1 : Nat) ({ cls := "java/lang/Record", name := "<init>", desc := "()V" } : Jvm.MethodName)) ∈ tblG := tg (i := 446) (by decide +kernel) (by decide +kernel)
theorem tw_411 : (Cond.fieldLink "DeltaViews$GroupRule" (7 : Nat) "DeltaViews$GroupRule" "input" "I") ∈ tblG := tg (i := 447) (by decide +kernel) (by decide +kernel)
theorem tw_412 : (Cond.fieldLink "DeltaViews$GroupRule" (13 : Nat) "DeltaViews$GroupRule" "key" "I") ∈ tblG := tg (i := 448) (by decide +kernel) (by decide +kernel)
theorem tw_413 : (Cond.fieldLink "DeltaViews$GroupRule" (16 : Nat) "DeltaViews$GroupRule" "column" "I") ∈ tblG := tg (i := 449) (by decide +kernel) (by decide +kernel)
theorem tw_414 : (Cond.fieldLink "DeltaViews$GroupRule" (19 : Nat) "DeltaViews$GroupRule" "kind" "I") ∈ tblG := tg (i := 450) (by decide +kernel) (by decide +kernel)
theorem tw_415 : (Cond.laysFinal "DeltaViews$GroupRule" "DeltaViews$GroupRule" "input" "I") ∈ tblG := tg (i := 451) (by decide +kernel) (by decide +kernel)
theorem tw_417 : (Cond.laysFinal "DeltaViews$GroupRule" "DeltaViews$GroupRule" "key" "I") ∈ tblG := tg (i := 453) (by decide +kernel) (by decide +kernel)
theorem tw_419 : (Cond.laysFinal "DeltaViews$GroupRule" "DeltaViews$GroupRule" "column" "I") ∈ tblG := tg (i := 455) (by decide +kernel) (by decide +kernel)
theorem tw_421 : (Cond.laysFinal "DeltaViews$GroupRule" "DeltaViews$GroupRule" "kind" "I") ∈ tblG := tg (i := 457) (by decide +kernel) (by decide +kernel)
theorem tw_424 : (Cond.methodLink "DeltaViewsLaw" (45 : Nat) ({ cls := "DeltaViews", name := "change", desc := "(IIIII)I" } : Jvm.MethodName)) ∈ tblG := tg (i := 460) (by decide +kernel) (by decide +kernel)
theorem tw_425 : (Cond.instanceMethod ({ cls := "DeltaViews", name := "change", desc := "(IIIII)I" } : Jvm.MethodName)) ∈ tblG := tg (i := 461) (by decide +kernel) (by decide +kernel)
theorem tw_426 : (Cond.selects "DeltaViews" ({ cls := "DeltaViews", name := "change", desc := "(IIIII)I" } : Jvm.MethodName) ({ cls := "DeltaViews", name := "change", desc := "(IIIII)I" } : Jvm.MethodName)) ∈ tblG := tg (i := 462) (by decide +kernel) (by decide +kernel)
theorem tw_427 : (Cond.code ({ cls := "DeltaViews", name := "change", desc := "(IIIII)I" } : Jvm.MethodName) prog_1_method_9_code (6 : Nat) (Option.some FieldType.int)) ∈ tblG := tg (i := 463) (by decide +kernel) (by decide +kernel)
theorem tw_428 : (Cond.methodLink "DeltaViews" (99 : Nat) ({ cls := "DeltaViews$Pending", name := "size", desc := "()I" } : Jvm.MethodName)) ∈ tblG := tg (i := 464) (by decide +kernel) (by decide +kernel)
theorem tw_429 : (Cond.instanceMethod ({ cls := "DeltaViews$Pending", name := "size", desc := "()I" } : Jvm.MethodName)) ∈ tblG := tg (i := 465) (by decide +kernel) (by decide +kernel)
theorem tw_430 : (Cond.selects "DeltaViews$Pending" ({ cls := "DeltaViews$Pending", name := "size", desc := "()I" } : Jvm.MethodName) ({ cls := "DeltaViews$Pending", name := "size", desc := "()I" } : Jvm.MethodName)) ∈ tblG := tg (i := 466) (by decide +kernel) (by decide +kernel)
theorem tw_431 : (Cond.code ({ cls := "DeltaViews$Pending", name := "size", desc := "()I" } : Jvm.MethodName) prog_8_method_2_code (1 : Nat) (Option.some FieldType.int)) ∈ tblG := tg (i := 467) (by decide +kernel) (by decide +kernel)
theorem tw_432 : (Cond.methodLink "DeltaViews" (103 : Nat) ({ cls := "DeltaViews$Pending", name := "append", desc := "(IIIII)V" } : Jvm.MethodName)) ∈ tblG := tg (i := 468) (by decide +kernel) (by decide +kernel)
theorem tw_433 : (Cond.instanceMethod ({ cls := "DeltaViews$Pending", name := "append", desc := "(IIIII)V" } : Jvm.MethodName)) ∈ tblG := tg (i := 469) (by decide +kernel) (by decide +kernel)
theorem tw_434 : (Cond.selects "DeltaViews$Pending" ({ cls := "DeltaViews$Pending", name := "append", desc := "(IIIII)V" } : Jvm.MethodName) ({ cls := "DeltaViews$Pending", name := "append", desc := "(IIIII)V" } : Jvm.MethodName)) ∈ tblG := tg (i := 470) (by decide +kernel) (by decide +kernel)
theorem tw_435 : (Cond.code ({ cls := "DeltaViews$Pending", name := "append", desc := "(IIIII)V" } : Jvm.MethodName) prog_8_method_4_code (7 : Nat) (Option.none : Option Jvm.ClassFile.FieldType)) ∈ tblG := tg (i := 471) (by decide +kernel) (by decide +kernel)
theorem tw_436 : (Cond.methodLink "DeltaViewsLaw" (49 : Nat) ({ cls := "DeltaViews", name := "step", desc := "()I" } : Jvm.MethodName)) ∈ tblG := tg (i := 472) (by decide +kernel) (by decide +kernel)
theorem tw_437 : (Cond.instanceMethod ({ cls := "DeltaViews", name := "step", desc := "()I" } : Jvm.MethodName)) ∈ tblG := tg (i := 473) (by decide +kernel) (by decide +kernel)
theorem tw_438 : (Cond.selects "DeltaViews" ({ cls := "DeltaViews", name := "step", desc := "()I" } : Jvm.MethodName) ({ cls := "DeltaViews", name := "step", desc := "()I" } : Jvm.MethodName)) ∈ tblG := tg (i := 474) (by decide +kernel) (by decide +kernel)
theorem tw_439 : (Cond.code ({ cls := "DeltaViews", name := "step", desc := "()I" } : Jvm.MethodName) prog_1_method_10_code (2 : Nat) (Option.some FieldType.int)) ∈ tblG := tg (i := 475) (by decide +kernel) (by decide +kernel)
theorem tw_440 : (Cond.methodLink "DeltaViews" (106 : Nat) ({ cls := "DeltaViews", name := "wouldFallBelowZero", desc := "()Z" } : Jvm.MethodName)) ∈ tblG := tg (i := 476) (by decide +kernel) (by decide +kernel)
theorem tw_442 : (Cond.instanceMethod ({ cls := "DeltaViews", name := "wouldFallBelowZero", desc := "()Z" } : Jvm.MethodName)) ∈ tblG := tg (i := 478) (by decide +kernel) (by decide +kernel)
theorem tw_443 : (Cond.code ({ cls := "DeltaViews", name := "wouldFallBelowZero", desc := "()Z" } : Jvm.MethodName) prog_1_method_31_code (2 : Nat) (Option.some FieldType.boolean)) ∈ tblG := tg (i := 479) (by decide +kernel) (by decide +kernel)
theorem tw_444 : (Cond.methodLink "DeltaViews" (170 : Nat) ({ cls := "DeltaViews", name := "gatherTable", desc := "(I)V" } : Jvm.MethodName)) ∈ tblG := tg (i := 480) (by decide +kernel) (by decide +kernel)
theorem tw_446 : (Cond.instanceMethod ({ cls := "DeltaViews", name := "gatherTable", desc := "(I)V" } : Jvm.MethodName)) ∈ tblG := tg (i := 482) (by decide +kernel) (by decide +kernel)
theorem tw_447 : (Cond.code ({ cls := "DeltaViews", name := "gatherTable", desc := "(I)V" } : Jvm.MethodName) prog_1_method_30_code (2 : Nat) (Option.none : Option Jvm.ClassFile.FieldType)) ∈ tblG := tg (i := 483) (by decide +kernel) (by decide +kernel)
theorem tw_448 : (Cond.methodLink "DeltaViews" (166 : Nat) ({ cls := "DeltaViews$Pending", name := "addTo", desc := "(LDeltaViews$Rows;I)V" } : Jvm.MethodName)) ∈ tblG := tg (i := 484) (by decide +kernel) (by decide +kernel)
theorem tw_449 : (Cond.instanceMethod ({ cls := "DeltaViews$Pending", name := "addTo", desc := "(LDeltaViews$Rows;I)V" } : Jvm.MethodName)) ∈ tblG := tg (i := 485) (by decide +kernel) (by decide +kernel)
theorem tw_450 : (Cond.selects "DeltaViews$Pending" ({ cls := "DeltaViews$Pending", name := "addTo", desc := "(LDeltaViews$Rows;I)V" } : Jvm.MethodName) ({ cls := "DeltaViews$Pending", name := "addTo", desc := "(LDeltaViews$Rows;I)V" } : Jvm.MethodName)) ∈ tblG := tg (i := 486) (by decide +kernel) (by decide +kernel)
theorem tw_451 : (Cond.code ({ cls := "DeltaViews$Pending", name := "addTo", desc := "(LDeltaViews$Rows;I)V" } : Jvm.MethodName) prog_8_method_5_code (5 : Nat) (Option.none : Option Jvm.ClassFile.FieldType)) ∈ tblG := tg (i := 487) (by decide +kernel) (by decide +kernel)
theorem tw_452 : (Cond.methodLink "DeltaViews$Pending" (25 : Nat) ({ cls := "DeltaViews$Rows", name := "addWeight", desc := "(IIIJ)V" } : Jvm.MethodName)) ∈ tblG := tg (i := 488) (by decide +kernel) (by decide +kernel)
theorem tw_453 : (Cond.methodLink "DeltaViews" (173 : Nat) ({ cls := "DeltaViews$Rows", name := "hasBelowZero", desc := "()Z" } : Jvm.MethodName)) ∈ tblG := tg (i := 489) (by decide +kernel) (by decide +kernel)
theorem tw_454 : (Cond.instanceMethod ({ cls := "DeltaViews$Rows", name := "hasBelowZero", desc := "()Z" } : Jvm.MethodName)) ∈ tblG := tg (i := 490) (by decide +kernel) (by decide +kernel)
theorem tw_455 : (Cond.selects "DeltaViews$Rows" ({ cls := "DeltaViews$Rows", name := "hasBelowZero", desc := "()Z" } : Jvm.MethodName) ({ cls := "DeltaViews$Rows", name := "hasBelowZero", desc := "()Z" } : Jvm.MethodName)) ∈ tblG := tg (i := 491) (by decide +kernel) (by decide +kernel)
theorem tw_456 : (Cond.code ({ cls := "DeltaViews$Rows", name := "hasBelowZero", desc := "()Z" } : Jvm.MethodName) prog_9_method_11_code (2 : Nat) (Option.some FieldType.boolean)) ∈ tblG := tg (i := 492) (by decide +kernel) (by decide +kernel)
theorem tw_457 : (Cond.methodLink "DeltaViews" (110 : Nat) ({ cls := "DeltaViews", name := "fillNextTables", desc := "()Z" } : Jvm.MethodName)) ∈ tblG := tg (i := 493) (by decide +kernel) (by decide +kernel)
theorem tw_459 : (Cond.instanceMethod ({ cls := "DeltaViews", name := "fillNextTables", desc := "()Z" } : Jvm.MethodName)) ∈ tblG := tg (i := 495) (by decide +kernel) (by decide +kernel)
theorem tw_460 : (Cond.code ({ cls := "DeltaViews", name := "fillNextTables", desc := "()Z" } : Jvm.MethodName) prog_1_method_32_code (2 : Nat) (Option.some FieldType.boolean)) ∈ tblG := tg (i := 496) (by decide +kernel) (by decide +kernel)
theorem tw_461 : (Cond.methodLink "DeltaViews" (117 : Nat) ({ cls := "DeltaViews$Pending", name := "clear", desc := "()V" } : Jvm.MethodName)) ∈ tblG := tg (i := 497) (by decide +kernel) (by decide +kernel)
theorem tw_462 : (Cond.instanceMethod ({ cls := "DeltaViews$Pending", name := "clear", desc := "()V" } : Jvm.MethodName)) ∈ tblG := tg (i := 498) (by decide +kernel) (by decide +kernel)
theorem tw_463 : (Cond.selects "DeltaViews$Pending" ({ cls := "DeltaViews$Pending", name := "clear", desc := "()V" } : Jvm.MethodName) ({ cls := "DeltaViews$Pending", name := "clear", desc := "()V" } : Jvm.MethodName)) ∈ tblG := tg (i := 499) (by decide +kernel) (by decide +kernel)
theorem tw_464 : (Cond.code ({ cls := "DeltaViews$Pending", name := "clear", desc := "()V" } : Jvm.MethodName) prog_8_method_3_code (1 : Nat) (Option.none : Option Jvm.ClassFile.FieldType)) ∈ tblG := tg (i := 500) (by decide +kernel) (by decide +kernel)
theorem tw_465 : (Cond.methodLink "DeltaViews" (120 : Nat) ({ cls := "DeltaViews", name := "noteChangesSince", desc := "([LDeltaViews$Rows;)I" } : Jvm.MethodName)) ∈ tblG := tg (i := 501) (by decide +kernel) (by decide +kernel)
theorem tw_467 : (Cond.instanceMethod ({ cls := "DeltaViews", name := "noteChangesSince", desc := "([LDeltaViews$Rows;)I" } : Jvm.MethodName)) ∈ tblG := tg (i := 503) (by decide +kernel) (by decide +kernel)
theorem tw_468 : (Cond.code ({ cls := "DeltaViews", name := "noteChangesSince", desc := "([LDeltaViews$Rows;)I" } : Jvm.MethodName) prog_1_method_33_code (5 : Nat) (Option.some FieldType.int)) ∈ tblG := tg (i := 504) (by decide +kernel) (by decide +kernel)
theorem tw_469 : (Cond.methodLink "DeltaViews" (176 : Nat) ({ cls := "DeltaViews$Rows", name := "differencesFrom", desc := "(LDeltaViews$Rows;)I" } : Jvm.MethodName)) ∈ tblG := tg (i := 505) (by decide +kernel) (by decide +kernel)
theorem tw_470 : (Cond.instanceMethod ({ cls := "DeltaViews$Rows", name := "differencesFrom", desc := "(LDeltaViews$Rows;)I" } : Jvm.MethodName)) ∈ tblG := tg (i := 506) (by decide +kernel) (by decide +kernel)
theorem tw_471 : (Cond.selects "DeltaViews$Rows" ({ cls := "DeltaViews$Rows", name := "differencesFrom", desc := "(LDeltaViews$Rows;)I" } : Jvm.MethodName) ({ cls := "DeltaViews$Rows", name := "differencesFrom", desc := "(LDeltaViews$Rows;)I" } : Jvm.MethodName)) ∈ tblG := tg (i := 507) (by decide +kernel) (by decide +kernel)
theorem tw_472 : (Cond.code ({ cls := "DeltaViews$Rows", name := "differencesFrom", desc := "(LDeltaViews$Rows;)I" } : Jvm.MethodName) prog_9_method_15_code (4 : Nat) (Option.some FieldType.int)) ∈ tblG := tg (i := 508) (by decide +kernel) (by decide +kernel)
theorem tw_473 : (Cond.methodLink "DeltaViews$Rows" (58 : Nat) ({ cls := "DeltaViews$Rows", name := "weightOf", desc := "(III)J" } : Jvm.MethodName)) ∈ tblG := tg (i := 509) (by decide +kernel) (by decide +kernel)
theorem tw_474 : (Cond.instanceMethod ({ cls := "DeltaViews$Rows", name := "weightOf", desc := "(III)J" } : Jvm.MethodName)) ∈ tblG := tg (i := 510) (by decide +kernel) (by decide +kernel)
theorem tw_475 : (Cond.selects "DeltaViews$Rows" ({ cls := "DeltaViews$Rows", name := "weightOf", desc := "(III)J" } : Jvm.MethodName) ({ cls := "DeltaViews$Rows", name := "weightOf", desc := "(III)J" } : Jvm.MethodName)) ∈ tblG := tg (i := 511) (by decide +kernel) (by decide +kernel)
theorem tw_476 : (Cond.code ({ cls := "DeltaViews$Rows", name := "weightOf", desc := "(III)J" } : Jvm.MethodName) prog_9_method_5_code (5 : Nat) (Option.some FieldType.long)) ∈ tblG := tg (i := 512) (by decide +kernel) (by decide +kernel)
theorem tw_477 : (Cond.methodLink "DeltaViewsLaw" (54 : Nat) ({ cls := "DeltaViews", name := "drop", desc := "()I" } : Jvm.MethodName)) ∈ tblG := tg (i := 513) (by decide +kernel) (by decide +kernel)
theorem tw_478 : (Cond.instanceMethod ({ cls := "DeltaViews", name := "drop", desc := "()I" } : Jvm.MethodName)) ∈ tblG := tg (i := 514) (by decide +kernel) (by decide +kernel)
theorem tw_479 : (Cond.selects "DeltaViews" ({ cls := "DeltaViews", name := "drop", desc := "()I" } : Jvm.MethodName) ({ cls := "DeltaViews", name := "drop", desc := "()I" } : Jvm.MethodName)) ∈ tblG := tg (i := 515) (by decide +kernel) (by decide +kernel)
theorem tw_480 : (Cond.code ({ cls := "DeltaViews", name := "drop", desc := "()I" } : Jvm.MethodName) prog_1_method_11_code (2 : Nat) (Option.some FieldType.int)) ∈ tblG := tg (i := 516) (by decide +kernel) (by decide +kernel)
theorem tw_481 : (Cond.methodLink "DeltaViewsLaw" (58 : Nat) ({ cls := "DeltaViews", name := "weight", desc := "(IIII)J" } : Jvm.MethodName)) ∈ tblG := tg (i := 517) (by decide +kernel) (by decide +kernel)
theorem tw_482 : (Cond.instanceMethod ({ cls := "DeltaViews", name := "weight", desc := "(IIII)J" } : Jvm.MethodName)) ∈ tblG := tg (i := 518) (by decide +kernel) (by decide +kernel)
theorem tw_483 : (Cond.selects "DeltaViews" ({ cls := "DeltaViews", name := "weight", desc := "(IIII)J" } : Jvm.MethodName) ({ cls := "DeltaViews", name := "weight", desc := "(IIII)J" } : Jvm.MethodName)) ∈ tblG := tg (i := 519) (by decide +kernel) (by decide +kernel)
theorem tw_484 : (Cond.code ({ cls := "DeltaViews", name := "weight", desc := "(IIII)J" } : Jvm.MethodName) prog_1_method_12_code (5 : Nat) (Option.some FieldType.long)) ∈ tblG := tg (i := 520) (by decide +kernel) (by decide +kernel)
theorem tw_485 : (Cond.methodLink "DeltaViews" (124 : Nat) ({ cls := "DeltaViews", name := "rowsOf", desc := "(I)LDeltaViews$Rows;" } : Jvm.MethodName)) ∈ tblG := tg (i := 521) (by decide +kernel) (by decide +kernel)
theorem tw_487 : (Cond.instanceMethod ({ cls := "DeltaViews", name := "rowsOf", desc := "(I)LDeltaViews$Rows;" } : Jvm.MethodName)) ∈ tblG := tg (i := 523) (by decide +kernel) (by decide +kernel)
theorem tw_488 : (Cond.code ({ cls := "DeltaViews", name := "rowsOf", desc := "(I)LDeltaViews$Rows;" } : Jvm.MethodName) prog_1_method_26_code (2 : Nat) (Option.some (FieldType.object "DeltaViews$Rows"))) ∈ tblG := tg (i := 524) (by decide +kernel) (by decide +kernel)
theorem tw_489 : (Cond.methodLink "DeltaViews" (128 : Nat) ({ cls := "DeltaViews$Rows", name := "weightOf", desc := "(III)J" } : Jvm.MethodName)) ∈ tblG := tg (i := 525) (by decide +kernel) (by decide +kernel)
theorem tw_490 : (Cond.constantLong "DeltaViews" (132 : Nat) (-1000000000000 : Int64)) ∈ tblG := tg (i := 526) (by decide +kernel) (by decide +kernel)
theorem tw_491 : (Cond.methodLink "DeltaViewsLaw" (63 : Nat) ({ cls := "DeltaViews", name := "inTable", desc := "(IIII)J" } : Jvm.MethodName)) ∈ tblG := tg (i := 527) (by decide +kernel) (by decide +kernel)
theorem tw_492 : (Cond.instanceMethod ({ cls := "DeltaViews", name := "inTable", desc := "(IIII)J" } : Jvm.MethodName)) ∈ tblG := tg (i := 528) (by decide +kernel) (by decide +kernel)
theorem tw_493 : (Cond.selects "DeltaViews" ({ cls := "DeltaViews", name := "inTable", desc := "(IIII)J" } : Jvm.MethodName) ({ cls := "DeltaViews", name := "inTable", desc := "(IIII)J" } : Jvm.MethodName)) ∈ tblG := tg (i := 529) (by decide +kernel) (by decide +kernel)
theorem tw_494 : (Cond.code ({ cls := "DeltaViews", name := "inTable", desc := "(IIII)J" } : Jvm.MethodName) prog_1_method_13_code (5 : Nat) (Option.some FieldType.long)) ∈ tblG := tg (i := 530) (by decide +kernel) (by decide +kernel)
theorem tw_495 : (Cond.methodLink "DeltaViewsLaw" (67 : Nat) ({ cls := "DeltaViews", name := "rows", desc := "(I)I" } : Jvm.MethodName)) ∈ tblG := tg (i := 531) (by decide +kernel) (by decide +kernel)
theorem tw_496 : (Cond.instanceMethod ({ cls := "DeltaViews", name := "rows", desc := "(I)I" } : Jvm.MethodName)) ∈ tblG := tg (i := 532) (by decide +kernel) (by decide +kernel)
theorem tw_497 : (Cond.selects "DeltaViews" ({ cls := "DeltaViews", name := "rows", desc := "(I)I" } : Jvm.MethodName) ({ cls := "DeltaViews", name := "rows", desc := "(I)I" } : Jvm.MethodName)) ∈ tblG := tg (i := 533) (by decide +kernel) (by decide +kernel)
theorem tw_498 : (Cond.code ({ cls := "DeltaViews", name := "rows", desc := "(I)I" } : Jvm.MethodName) prog_1_method_14_code (2 : Nat) (Option.some FieldType.int)) ∈ tblG := tg (i := 534) (by decide +kernel) (by decide +kernel)
theorem tw_499 : (Cond.methodLink "DeltaViews" (134 : Nat) ({ cls := "DeltaViews$Rows", name := "size", desc := "()I" } : Jvm.MethodName)) ∈ tblG := tg (i := 535) (by decide +kernel) (by decide +kernel)
theorem tw_500 : (Cond.methodLink "DeltaViewsLaw" (71 : Nat) ({ cls := "DeltaViews", name := "cell", desc := "(III)J" } : Jvm.MethodName)) ∈ tblG := tg (i := 536) (by decide +kernel) (by decide +kernel)
theorem tw_501 : (Cond.instanceMethod ({ cls := "DeltaViews", name := "cell", desc := "(III)J" } : Jvm.MethodName)) ∈ tblG := tg (i := 537) (by decide +kernel) (by decide +kernel)
theorem tw_502 : (Cond.selects "DeltaViews" ({ cls := "DeltaViews", name := "cell", desc := "(III)J" } : Jvm.MethodName) ({ cls := "DeltaViews", name := "cell", desc := "(III)J" } : Jvm.MethodName)) ∈ tblG := tg (i := 538) (by decide +kernel) (by decide +kernel)
theorem tw_503 : (Cond.code ({ cls := "DeltaViews", name := "cell", desc := "(III)J" } : Jvm.MethodName) prog_1_method_15_code (4 : Nat) (Option.some FieldType.long)) ∈ tblG := tg (i := 539) (by decide +kernel) (by decide +kernel)
theorem tw_504 : (Cond.methodLink "DeltaViews" (135 : Nat) ({ cls := "DeltaViews$Rows", name := "valueAt", desc := "(II)I" } : Jvm.MethodName)) ∈ tblG := tg (i := 540) (by decide +kernel) (by decide +kernel)
theorem tw_505 : (Cond.methodLink "DeltaViewsLaw" (76 : Nat) ({ cls := "DeltaViews", name := "total", desc := "(I)J" } : Jvm.MethodName)) ∈ tblG := tg (i := 541) (by decide +kernel) (by decide +kernel)
theorem tw_506 : (Cond.instanceMethod ({ cls := "DeltaViews", name := "total", desc := "(I)J" } : Jvm.MethodName)) ∈ tblG := tg (i := 542) (by decide +kernel) (by decide +kernel)
theorem tw_507 : (Cond.selects "DeltaViews" ({ cls := "DeltaViews", name := "total", desc := "(I)J" } : Jvm.MethodName) ({ cls := "DeltaViews", name := "total", desc := "(I)J" } : Jvm.MethodName)) ∈ tblG := tg (i := 543) (by decide +kernel) (by decide +kernel)
theorem tw_508 : (Cond.code ({ cls := "DeltaViews", name := "total", desc := "(I)J" } : Jvm.MethodName) prog_1_method_16_code (2 : Nat) (Option.some FieldType.long)) ∈ tblG := tg (i := 544) (by decide +kernel) (by decide +kernel)
theorem tw_509 : (Cond.methodLink "DeltaViews" (139 : Nat) ({ cls := "DeltaViews$Rows", name := "sumOfWeights", desc := "()J" } : Jvm.MethodName)) ∈ tblG := tg (i := 545) (by decide +kernel) (by decide +kernel)
theorem tw_510 : (Cond.instanceMethod ({ cls := "DeltaViews$Rows", name := "sumOfWeights", desc := "()J" } : Jvm.MethodName)) ∈ tblG := tg (i := 546) (by decide +kernel) (by decide +kernel)
theorem tw_511 : (Cond.selects "DeltaViews$Rows" ({ cls := "DeltaViews$Rows", name := "sumOfWeights", desc := "()J" } : Jvm.MethodName) ({ cls := "DeltaViews$Rows", name := "sumOfWeights", desc := "()J" } : Jvm.MethodName)) ∈ tblG := tg (i := 547) (by decide +kernel) (by decide +kernel)
theorem tw_512 : (Cond.code ({ cls := "DeltaViews$Rows", name := "sumOfWeights", desc := "()J" } : Jvm.MethodName) prog_9_method_13_code (4 : Nat) (Option.some FieldType.long)) ∈ tblG := tg (i := 548) (by decide +kernel) (by decide +kernel)
theorem tw_513 : (Cond.methodLink "DeltaViewsLaw" (81 : Nat) ({ cls := "DeltaViews", name := "changed", desc := "(I)I" } : Jvm.MethodName)) ∈ tblG := tg (i := 549) (by decide +kernel) (by decide +kernel)
theorem tw_514 : (Cond.instanceMethod ({ cls := "DeltaViews", name := "changed", desc := "(I)I" } : Jvm.MethodName)) ∈ tblG := tg (i := 550) (by decide +kernel) (by decide +kernel)
theorem tw_515 : (Cond.selects "DeltaViews" ({ cls := "DeltaViews", name := "changed", desc := "(I)I" } : Jvm.MethodName) ({ cls := "DeltaViews", name := "changed", desc := "(I)I" } : Jvm.MethodName)) ∈ tblG := tg (i := 551) (by decide +kernel) (by decide +kernel)
theorem tw_516 : (Cond.code ({ cls := "DeltaViews", name := "changed", desc := "(I)I" } : Jvm.MethodName) prog_1_method_17_code (2 : Nat) (Option.some FieldType.int)) ∈ tblG := tg (i := 552) (by decide +kernel) (by decide +kernel)
theorem tw_517 : (Cond.methodLink "DeltaViewsLaw" (85 : Nat) ({ cls := "DeltaViews", name := "mean", desc := "(II)D" } : Jvm.MethodName)) ∈ tblG := tg (i := 553) (by decide +kernel) (by decide +kernel)
theorem tw_518 : (Cond.instanceMethod ({ cls := "DeltaViews", name := "mean", desc := "(II)D" } : Jvm.MethodName)) ∈ tblG := tg (i := 554) (by decide +kernel) (by decide +kernel)
theorem tw_519 : (Cond.selects "DeltaViews" ({ cls := "DeltaViews", name := "mean", desc := "(II)D" } : Jvm.MethodName) ({ cls := "DeltaViews", name := "mean", desc := "(II)D" } : Jvm.MethodName)) ∈ tblG := tg (i := 555) (by decide +kernel) (by decide +kernel)
theorem tw_520 : (Cond.code ({ cls := "DeltaViews", name := "mean", desc := "(II)D" } : Jvm.MethodName) prog_1_method_18_code (5 : Nat) (Option.some FieldType.double)) ∈ tblG := tg (i := 556) (by decide +kernel) (by decide +kernel)
theorem tw_521 : (Cond.methodLink "DeltaViews" (143 : Nat) ({ cls := "DeltaViews$Rows", name := "weightedSum", desc := "(I)J" } : Jvm.MethodName)) ∈ tblG := tg (i := 557) (by decide +kernel) (by decide +kernel)
theorem tw_522 : (Cond.instanceMethod ({ cls := "DeltaViews$Rows", name := "weightedSum", desc := "(I)J" } : Jvm.MethodName)) ∈ tblG := tg (i := 558) (by decide +kernel) (by decide +kernel)
theorem tw_523 : (Cond.selects "DeltaViews$Rows" ({ cls := "DeltaViews$Rows", name := "weightedSum", desc := "(I)J" } : Jvm.MethodName) ({ cls := "DeltaViews$Rows", name := "weightedSum", desc := "(I)J" } : Jvm.MethodName)) ∈ tblG := tg (i := 559) (by decide +kernel) (by decide +kernel)
theorem tw_524 : (Cond.code ({ cls := "DeltaViews$Rows", name := "weightedSum", desc := "(I)J" } : Jvm.MethodName) prog_9_method_14_code (5 : Nat) (Option.some FieldType.long)) ∈ tblG := tg (i := 560) (by decide +kernel) (by decide +kernel)
theorem tw_525 : (Cond.methodLink "DeltaViewsLaw" (90 : Nat) ({ cls := "DeltaViews", name := "count", desc := "(I)I" } : Jvm.MethodName)) ∈ tblG := tg (i := 561) (by decide +kernel) (by decide +kernel)
theorem tw_526 : (Cond.instanceMethod ({ cls := "DeltaViews", name := "count", desc := "(I)I" } : Jvm.MethodName)) ∈ tblG := tg (i := 562) (by decide +kernel) (by decide +kernel)
theorem tw_527 : (Cond.selects "DeltaViews" ({ cls := "DeltaViews", name := "count", desc := "(I)I" } : Jvm.MethodName) ({ cls := "DeltaViews", name := "count", desc := "(I)I" } : Jvm.MethodName)) ∈ tblG := tg (i := 563) (by decide +kernel) (by decide +kernel)
theorem tw_528 : (Cond.code ({ cls := "DeltaViews", name := "count", desc := "(I)I" } : Jvm.MethodName) prog_1_method_19_code (2 : Nat) (Option.some FieldType.int)) ∈ tblG := tg (i := 564) (by decide +kernel) (by decide +kernel)
theorem tw_529 : (Cond.classLink "DeltaViewsLaw" (10 : Nat) "DeltaViewsModel") ∈ tblG := tg (i := 565) (by decide +kernel) (by decide +kernel)
theorem tw_530 : (Cond.instantiable "DeltaViewsModel" (20 : Nat)) ∈ tblG := tg (i := 566) (by decide +kernel) (by decide +kernel)
theorem tw_531 : (Cond.methodLink "DeltaViewsLaw" (12 : Nat) ({ cls := "DeltaViewsModel", name := "<init>", desc := "()V" } : Jvm.MethodName)) ∈ tblG := tg (i := 567) (by decide +kernel) (by decide +kernel)
theorem tw_532 : (Cond.instanceMethod ({ cls := "DeltaViewsModel", name := "<init>", desc := "()V" } : Jvm.MethodName)) ∈ tblG := tg (i := 568) (by decide +kernel) (by decide +kernel)
theorem tw_533 : (Cond.code ({ cls := "DeltaViewsModel", name := "<init>", desc := "()V" } : Jvm.MethodName) prog_13_method_1_code (1 : Nat) (Option.none : Option Jvm.ClassFile.FieldType)) ∈ tblG := tg (i := 569) (by decide +kernel) (by decide +kernel)
theorem tw_534 : (Cond.methodLink "DeltaViewsModel" (1 : Nat) ({ cls := "java/lang/Object", name := "<init>", desc := "()V" } : Jvm.MethodName)) ∈ tblG := tg (i := 570) (by decide +kernel) (by decide +kernel)
theorem tw_535 : (Cond.fieldLink "DeltaViewsModel" (7 : Nat) "DeltaViewsModel" "rowA" "[I") ∈ tblG := tg (i := 571) (by decide +kernel) (by decide +kernel)
theorem tw_536 : (Cond.fieldLink "DeltaViewsModel" (13 : Nat) "DeltaViewsModel" "rowB" "[I") ∈ tblG := tg (i := 572) (by decide +kernel) (by decide +kernel)
theorem tw_537 : (Cond.fieldLink "DeltaViewsModel" (16 : Nat) "DeltaViewsModel" "rowC" "[I") ∈ tblG := tg (i := 573) (by decide +kernel) (by decide +kernel)
theorem tw_538 : (Cond.fieldLink "DeltaViewsModel" (19 : Nat) "DeltaViewsModel" "rowW" "[J") ∈ tblG := tg (i := 574) (by decide +kernel) (by decide +kernel)
theorem tw_539 : (Cond.fieldLink "DeltaViewsModel" (23 : Nat) "DeltaViewsModel" "size" "[I") ∈ tblG := tg (i := 575) (by decide +kernel) (by decide +kernel)
theorem tw_540 : (Cond.fieldLink "DeltaViewsModel" (26 : Nat) "DeltaViewsModel" "workA" "[I") ∈ tblG := tg (i := 576) (by decide +kernel) (by decide +kernel)
theorem tw_541 : (Cond.fieldLink "DeltaViewsModel" (29 : Nat) "DeltaViewsModel" "workB" "[I") ∈ tblG := tg (i := 577) (by decide +kernel) (by decide +kernel)
theorem tw_542 : (Cond.fieldLink "DeltaViewsModel" (32 : Nat) "DeltaViewsModel" "workC" "[I") ∈ tblG := tg (i := 578) (by decide +kernel) (by decide +kernel)
theorem tw_543 : (Cond.fieldLink "DeltaViewsModel" (35 : Nat) "DeltaViewsModel" "workW" "[J") ∈ tblG := tg (i := 579) (by decide +kernel) (by decide +kernel)
theorem tw_544 : (Cond.fieldLink "DeltaViewsModel" (62 : Nat) "DeltaViewsModel" "work" "I") ∈ tblG := tg (i := 580) (by decide +kernel) (by decide +kernel)
theorem tw_545 : (Cond.fieldLink "DeltaViewsModel" (38 : Nat) "DeltaViewsModel" "kind" "[I") ∈ tblG := tg (i := 581) (by decide +kernel) (by decide +kernel)
theorem tw_546 : (Cond.fieldLink "DeltaViewsModel" (41 : Nat) "DeltaViewsModel" "argument" "[I") ∈ tblG := tg (i := 582) (by decide +kernel) (by decide +kernel)
theorem tw_547 : (Cond.fieldLink "DeltaViewsModel" (44 : Nat) "DeltaViewsModel" "changedRows" "[I") ∈ tblG := tg (i := 583) (by decide +kernel) (by decide +kernel)
theorem tw_548 : (Cond.fieldLink "DeltaViewsModel" (106 : Nat) "DeltaViewsModel" "nodes" "I") ∈ tblG := tg (i := 584) (by decide +kernel) (by decide +kernel)
theorem tw_549 : (Cond.fieldLink "DeltaViewsModel" (47 : Nat) "DeltaViewsModel" "pTable" "[I") ∈ tblG := tg (i := 585) (by decide +kernel) (by decide +kernel)
theorem tw_550 : (Cond.fieldLink "DeltaViewsModel" (50 : Nat) "DeltaViewsModel" "pA" "[I") ∈ tblG := tg (i := 586) (by decide +kernel) (by decide +kernel)
theorem tw_551 : (Cond.fieldLink "DeltaViewsModel" (53 : Nat) "DeltaViewsModel" "pB" "[I") ∈ tblG := tg (i := 587) (by decide +kernel) (by decide +kernel)
theorem tw_552 : (Cond.fieldLink "DeltaViewsModel" (56 : Nat) "DeltaViewsModel" "pC" "[I") ∈ tblG := tg (i := 588) (by decide +kernel) (by decide +kernel)
theorem tw_553 : (Cond.fieldLink "DeltaViewsModel" (59 : Nat) "DeltaViewsModel" "pBy" "[I") ∈ tblG := tg (i := 589) (by decide +kernel) (by decide +kernel)
theorem tw_554 : (Cond.fieldLink "DeltaViewsModel" (119 : Nat) "DeltaViewsModel" "pending" "I") ∈ tblG := tg (i := 590) (by decide +kernel) (by decide +kernel)
theorem tw_555 : (Cond.laysFinal "DeltaViewsModel" "DeltaViewsModel" "rowA" "[I") ∈ tblG := tg (i := 591) (by decide +kernel) (by decide +kernel)
theorem tw_557 : (Cond.laysFinal "DeltaViewsModel" "DeltaViewsModel" "rowB" "[I") ∈ tblG := tg (i := 593) (by decide +kernel) (by decide +kernel)
theorem tw_559 : (Cond.laysFinal "DeltaViewsModel" "DeltaViewsModel" "rowC" "[I") ∈ tblG := tg (i := 595) (by decide +kernel) (by decide +kernel)
theorem tw_561 : (Cond.laysFinal "DeltaViewsModel" "DeltaViewsModel" "rowW" "[J") ∈ tblG := tg (i := 597) (by decide +kernel) (by decide +kernel)
theorem tw_563 : (Cond.laysFinal "DeltaViewsModel" "DeltaViewsModel" "size" "[I") ∈ tblG := tg (i := 599) (by decide +kernel) (by decide +kernel)
theorem tw_565 : (Cond.laysFinal "DeltaViewsModel" "DeltaViewsModel" "workA" "[I") ∈ tblG := tg (i := 601) (by decide +kernel) (by decide +kernel)
theorem tw_567 : (Cond.laysFinal "DeltaViewsModel" "DeltaViewsModel" "workB" "[I") ∈ tblG := tg (i := 603) (by decide +kernel) (by decide +kernel)
theorem tw_569 : (Cond.laysFinal "DeltaViewsModel" "DeltaViewsModel" "workC" "[I") ∈ tblG := tg (i := 605) (by decide +kernel) (by decide +kernel)
theorem tw_571 : (Cond.laysFinal "DeltaViewsModel" "DeltaViewsModel" "workW" "[J") ∈ tblG := tg (i := 607) (by decide +kernel) (by decide +kernel)
theorem tw_573 : (Cond.lays "DeltaViewsModel" "DeltaViewsModel" "work" "I") ∈ tblG := tg (i := 609) (by decide +kernel) (by decide +kernel)
theorem tw_575 : (Cond.laysFinal "DeltaViewsModel" "DeltaViewsModel" "kind" "[I") ∈ tblG := tg (i := 611) (by decide +kernel) (by decide +kernel)
theorem tw_577 : (Cond.laysFinal "DeltaViewsModel" "DeltaViewsModel" "argument" "[I") ∈ tblG := tg (i := 613) (by decide +kernel) (by decide +kernel)
theorem tw_579 : (Cond.laysFinal "DeltaViewsModel" "DeltaViewsModel" "changedRows" "[I") ∈ tblG := tg (i := 615) (by decide +kernel) (by decide +kernel)
theorem tw_581 : (Cond.lays "DeltaViewsModel" "DeltaViewsModel" "nodes" "I") ∈ tblG := tg (i := 617) (by decide +kernel) (by decide +kernel)
theorem tw_583 : (Cond.laysFinal "DeltaViewsModel" "DeltaViewsModel" "pTable" "[I") ∈ tblG := tg (i := 619) (by decide +kernel) (by decide +kernel)
theorem tw_585 : (Cond.laysFinal "DeltaViewsModel" "DeltaViewsModel" "pA" "[I") ∈ tblG := tg (i := 621) (by decide +kernel) (by decide +kernel)
theorem tw_587 : (Cond.laysFinal "DeltaViewsModel" "DeltaViewsModel" "pB" "[I") ∈ tblG := tg (i := 623) (by decide +kernel) (by decide +kernel)
theorem tw_589 : (Cond.laysFinal "DeltaViewsModel" "DeltaViewsModel" "pC" "[I") ∈ tblG := tg (i := 625) (by decide +kernel) (by decide +kernel)
theorem tw_591 : (Cond.laysFinal "DeltaViewsModel" "DeltaViewsModel" "pBy" "[I") ∈ tblG := tg (i := 627) (by decide +kernel) (by decide +kernel)
theorem tw_593 : (Cond.lays "DeltaViewsModel" "DeltaViewsModel" "pending" "I") ∈ tblG := tg (i := 629) (by decide +kernel) (by decide +kernel)
theorem tw_596 : (Cond.methodLink "DeltaViewsLaw" (17 : Nat) ({ cls := "DeltaViewsModel", name := "table", desc := "(I)I" } : Jvm.MethodName)) ∈ tblG := tg (i := 632) (by decide +kernel) (by decide +kernel)
theorem tw_597 : (Cond.instanceMethod ({ cls := "DeltaViewsModel", name := "table", desc := "(I)I" } : Jvm.MethodName)) ∈ tblG := tg (i := 633) (by decide +kernel) (by decide +kernel)
theorem tw_598 : (Cond.selects "DeltaViewsModel" ({ cls := "DeltaViewsModel", name := "table", desc := "(I)I" } : Jvm.MethodName) ({ cls := "DeltaViewsModel", name := "table", desc := "(I)I" } : Jvm.MethodName)) ∈ tblG := tg (i := 634) (by decide +kernel) (by decide +kernel)
theorem tw_599 : (Cond.code ({ cls := "DeltaViewsModel", name := "table", desc := "(I)I" } : Jvm.MethodName) prog_13_method_16_code (2 : Nat) (Option.some FieldType.int)) ∈ tblG := tg (i := 635) (by decide +kernel) (by decide +kernel)
theorem tw_600 : (Cond.methodLink "DeltaViewsModel" (112 : Nat) ({ cls := "DeltaViewsModel", name := "out", desc := "(II)Z" } : Jvm.MethodName)) ∈ tblG := tg (i := 636) (by decide +kernel) (by decide +kernel)
theorem tw_602 : (Cond.instanceMethod ({ cls := "DeltaViewsModel", name := "out", desc := "(II)Z" } : Jvm.MethodName)) ∈ tblG := tg (i := 638) (by decide +kernel) (by decide +kernel)
theorem tw_603 : (Cond.code ({ cls := "DeltaViewsModel", name := "out", desc := "(II)Z" } : Jvm.MethodName) prog_13_method_2_code (3 : Nat) (Option.some FieldType.boolean)) ∈ tblG := tg (i := 639) (by decide +kernel) (by decide +kernel)
theorem tw_604 : (Cond.methodLink "DeltaViewsModel" (115 : Nat) ({ cls := "DeltaViewsModel", name := "make", desc := "(IIIIII)I" } : Jvm.MethodName)) ∈ tblG := tg (i := 640) (by decide +kernel) (by decide +kernel)
theorem tw_606 : (Cond.instanceMethod ({ cls := "DeltaViewsModel", name := "make", desc := "(IIIIII)I" } : Jvm.MethodName)) ∈ tblG := tg (i := 642) (by decide +kernel) (by decide +kernel)
theorem tw_607 : (Cond.code ({ cls := "DeltaViewsModel", name := "make", desc := "(IIIIII)I" } : Jvm.MethodName) prog_13_method_15_code (7 : Nat) (Option.some FieldType.int)) ∈ tblG := tg (i := 643) (by decide +kernel) (by decide +kernel)
theorem tw_608 : (Cond.methodLink "DeltaViewsModel" (109 : Nat) ({ cls := "DeltaViewsModel", name := "evaluate", desc := "(II)Z" } : Jvm.MethodName)) ∈ tblG := tg (i := 644) (by decide +kernel) (by decide +kernel)
theorem tw_610 : (Cond.instanceMethod ({ cls := "DeltaViewsModel", name := "evaluate", desc := "(II)Z" } : Jvm.MethodName)) ∈ tblG := tg (i := 646) (by decide +kernel) (by decide +kernel)
theorem tw_611 : (Cond.code ({ cls := "DeltaViewsModel", name := "evaluate", desc := "(II)Z" } : Jvm.MethodName) prog_13_method_14_code (7 : Nat) (Option.some FieldType.boolean)) ∈ tblG := tg (i := 647) (by decide +kernel) (by decide +kernel)
theorem tw_612 : (Cond.methodLink "DeltaViewsModel" (96 : Nat) ({ cls := "DeltaViewsModel", name := "joinOne", desc := "(III)V" } : Jvm.MethodName)) ∈ tblG := tg (i := 648) (by decide +kernel) (by decide +kernel)
theorem tw_614 : (Cond.instanceMethod ({ cls := "DeltaViewsModel", name := "joinOne", desc := "(III)V" } : Jvm.MethodName)) ∈ tblG := tg (i := 650) (by decide +kernel) (by decide +kernel)
theorem tw_615 : (Cond.code ({ cls := "DeltaViewsModel", name := "joinOne", desc := "(III)V" } : Jvm.MethodName) prog_13_method_11_code (9 : Nat) (Option.none : Option Jvm.ClassFile.FieldType)) ∈ tblG := tg (i := 651) (by decide +kernel) (by decide +kernel)
theorem tw_616 : (Cond.methodLink "DeltaViewsModel" (74 : Nat) ({ cls := "DeltaViewsModel", name := "column", desc := "(II)I" } : Jvm.MethodName)) ∈ tblG := tg (i := 652) (by decide +kernel) (by decide +kernel)
theorem tw_618 : (Cond.instanceMethod ({ cls := "DeltaViewsModel", name := "column", desc := "(II)I" } : Jvm.MethodName)) ∈ tblG := tg (i := 654) (by decide +kernel) (by decide +kernel)
theorem tw_619 : (Cond.code ({ cls := "DeltaViewsModel", name := "column", desc := "(II)I" } : Jvm.MethodName) prog_13_method_6_code (3 : Nat) (Option.some FieldType.int)) ∈ tblG := tg (i := 655) (by decide +kernel) (by decide +kernel)
theorem tw_620 : (Cond.methodLink "DeltaViewsModel" (78 : Nat) ({ cls := "DeltaViewsModel", name := "picked", desc := "(III)I" } : Jvm.MethodName)) ∈ tblG := tg (i := 656) (by decide +kernel) (by decide +kernel)
theorem tw_622 : (Cond.instanceMethod ({ cls := "DeltaViewsModel", name := "picked", desc := "(III)I" } : Jvm.MethodName)) ∈ tblG := tg (i := 658) (by decide +kernel) (by decide +kernel)
theorem tw_623 : (Cond.code ({ cls := "DeltaViewsModel", name := "picked", desc := "(III)I" } : Jvm.MethodName) prog_13_method_10_code (4 : Nat) (Option.some FieldType.int)) ∈ tblG := tg (i := 659) (by decide +kernel) (by decide +kernel)
theorem tw_624 : (Cond.methodLink "DeltaViewsModel" (82 : Nat) ({ cls := "DeltaViewsModel", name := "emit", desc := "(IIIJ)V" } : Jvm.MethodName)) ∈ tblG := tg (i := 660) (by decide +kernel) (by decide +kernel)
theorem tw_626 : (Cond.instanceMethod ({ cls := "DeltaViewsModel", name := "emit", desc := "(IIIJ)V" } : Jvm.MethodName)) ∈ tblG := tg (i := 662) (by decide +kernel) (by decide +kernel)
theorem tw_627 : (Cond.code ({ cls := "DeltaViewsModel", name := "emit", desc := "(IIIJ)V" } : Jvm.MethodName) prog_13_method_3_code (7 : Nat) (Option.none : Option Jvm.ClassFile.FieldType)) ∈ tblG := tg (i := 663) (by decide +kernel) (by decide +kernel)
theorem tw_628 : (Cond.methodLink "DeltaViewsModel" (100 : Nat) ({ cls := "DeltaViewsModel", name := "unary", desc := "(III)V" } : Jvm.MethodName)) ∈ tblG := tg (i := 664) (by decide +kernel) (by decide +kernel)
theorem tw_630 : (Cond.instanceMethod ({ cls := "DeltaViewsModel", name := "unary", desc := "(III)V" } : Jvm.MethodName)) ∈ tblG := tg (i := 666) (by decide +kernel) (by decide +kernel)
theorem tw_631 : (Cond.code ({ cls := "DeltaViewsModel", name := "unary", desc := "(III)V" } : Jvm.MethodName) prog_13_method_13_code (10 : Nat) (Option.none : Option Jvm.ClassFile.FieldType)) ∈ tblG := tg (i := 667) (by decide +kernel) (by decide +kernel)
theorem tw_632 : (Cond.methodLink "DeltaViewsModel" (86 : Nat) ({ cls := "DeltaViewsModel", name := "passes", desc := "(III)Z" } : Jvm.MethodName)) ∈ tblG := tg (i := 668) (by decide +kernel) (by decide +kernel)
theorem tw_634 : (Cond.instanceMethod ({ cls := "DeltaViewsModel", name := "passes", desc := "(III)Z" } : Jvm.MethodName)) ∈ tblG := tg (i := 670) (by decide +kernel) (by decide +kernel)
theorem tw_635 : (Cond.code ({ cls := "DeltaViewsModel", name := "passes", desc := "(III)Z" } : Jvm.MethodName) prog_13_method_8_code (4 : Nat) (Option.some FieldType.boolean)) ∈ tblG := tg (i := 671) (by decide +kernel) (by decide +kernel)
theorem tw_636 : (Cond.methodLink "DeltaViewsModel" (90 : Nat) ({ cls := "DeltaViewsModel", name := "mapped", desc := "(II)I" } : Jvm.MethodName)) ∈ tblG := tg (i := 672) (by decide +kernel) (by decide +kernel)
theorem tw_638 : (Cond.instanceMethod ({ cls := "DeltaViewsModel", name := "mapped", desc := "(II)I" } : Jvm.MethodName)) ∈ tblG := tg (i := 674) (by decide +kernel) (by decide +kernel)
theorem tw_639 : (Cond.code ({ cls := "DeltaViewsModel", name := "mapped", desc := "(II)I" } : Jvm.MethodName) prog_13_method_9_code (3 : Nat) (Option.some FieldType.int)) ∈ tblG := tg (i := 675) (by decide +kernel) (by decide +kernel)
theorem tw_640 : (Cond.methodLink "DeltaViewsModel" (93 : Nat) ({ cls := "DeltaViewsModel", name := "grouped", desc := "(III)I" } : Jvm.MethodName)) ∈ tblG := tg (i := 676) (by decide +kernel) (by decide +kernel)
theorem tw_642 : (Cond.instanceMethod ({ cls := "DeltaViewsModel", name := "grouped", desc := "(III)I" } : Jvm.MethodName)) ∈ tblG := tg (i := 678) (by decide +kernel) (by decide +kernel)
theorem tw_643 : (Cond.code ({ cls := "DeltaViewsModel", name := "grouped", desc := "(III)I" } : Jvm.MethodName) prog_13_method_12_code (12 : Nat) (Option.some FieldType.int)) ∈ tblG := tg (i := 679) (by decide +kernel) (by decide +kernel)
theorem tw_644 : (Cond.methodLink "DeltaViewsModel" (103 : Nat) ({ cls := "DeltaViewsModel", name := "settle", desc := "(II)Z" } : Jvm.MethodName)) ∈ tblG := tg (i := 680) (by decide +kernel) (by decide +kernel)
theorem tw_646 : (Cond.instanceMethod ({ cls := "DeltaViewsModel", name := "settle", desc := "(II)Z" } : Jvm.MethodName)) ∈ tblG := tg (i := 682) (by decide +kernel) (by decide +kernel)
theorem tw_647 : (Cond.code ({ cls := "DeltaViewsModel", name := "settle", desc := "(II)Z" } : Jvm.MethodName) prog_13_method_5_code (7 : Nat) (Option.some FieldType.boolean)) ∈ tblG := tg (i := 683) (by decide +kernel) (by decide +kernel)
theorem tw_648 : (Cond.constantLong "DeltaViewsModel" (66 : Nat) (1000000 : Int64)) ∈ tblG := tg (i := 684) (by decide +kernel) (by decide +kernel)
theorem tw_649 : (Cond.constantLong "DeltaViewsModel" (68 : Nat) (-1000000 : Int64)) ∈ tblG := tg (i := 685) (by decide +kernel) (by decide +kernel)
theorem tw_650 : (Cond.methodLink "DeltaViewsModel" (70 : Nat) ({ cls := "DeltaViewsModel", name := "before", desc := "(II)Z" } : Jvm.MethodName)) ∈ tblG := tg (i := 686) (by decide +kernel) (by decide +kernel)
theorem tw_652 : (Cond.instanceMethod ({ cls := "DeltaViewsModel", name := "before", desc := "(II)Z" } : Jvm.MethodName)) ∈ tblG := tg (i := 688) (by decide +kernel) (by decide +kernel)
theorem tw_653 : (Cond.code ({ cls := "DeltaViewsModel", name := "before", desc := "(II)Z" } : Jvm.MethodName) prog_13_method_4_code (3 : Nat) (Option.some FieldType.boolean)) ∈ tblG := tg (i := 689) (by decide +kernel) (by decide +kernel)
theorem tw_654 : (Cond.methodLink "DeltaViewsLaw" (22 : Nat) ({ cls := "DeltaViewsModel", name := "filter", desc := "(IIII)I" } : Jvm.MethodName)) ∈ tblG := tg (i := 690) (by decide +kernel) (by decide +kernel)
theorem tw_655 : (Cond.instanceMethod ({ cls := "DeltaViewsModel", name := "filter", desc := "(IIII)I" } : Jvm.MethodName)) ∈ tblG := tg (i := 691) (by decide +kernel) (by decide +kernel)
theorem tw_656 : (Cond.selects "DeltaViewsModel" ({ cls := "DeltaViewsModel", name := "filter", desc := "(IIII)I" } : Jvm.MethodName) ({ cls := "DeltaViewsModel", name := "filter", desc := "(IIII)I" } : Jvm.MethodName)) ∈ tblG := tg (i := 692) (by decide +kernel) (by decide +kernel)
theorem tw_657 : (Cond.code ({ cls := "DeltaViewsModel", name := "filter", desc := "(IIII)I" } : Jvm.MethodName) prog_13_method_17_code (5 : Nat) (Option.some FieldType.int)) ∈ tblG := tg (i := 693) (by decide +kernel) (by decide +kernel)
theorem tw_658 : (Cond.methodLink "DeltaViewsLaw" (26 : Nat) ({ cls := "DeltaViewsModel", name := "map", desc := "(IIII)I" } : Jvm.MethodName)) ∈ tblG := tg (i := 694) (by decide +kernel) (by decide +kernel)
theorem tw_659 : (Cond.instanceMethod ({ cls := "DeltaViewsModel", name := "map", desc := "(IIII)I" } : Jvm.MethodName)) ∈ tblG := tg (i := 695) (by decide +kernel) (by decide +kernel)
theorem tw_660 : (Cond.selects "DeltaViewsModel" ({ cls := "DeltaViewsModel", name := "map", desc := "(IIII)I" } : Jvm.MethodName) ({ cls := "DeltaViewsModel", name := "map", desc := "(IIII)I" } : Jvm.MethodName)) ∈ tblG := tg (i := 696) (by decide +kernel) (by decide +kernel)
theorem tw_661 : (Cond.code ({ cls := "DeltaViewsModel", name := "map", desc := "(IIII)I" } : Jvm.MethodName) prog_13_method_18_code (5 : Nat) (Option.some FieldType.int)) ∈ tblG := tg (i := 697) (by decide +kernel) (by decide +kernel)
theorem tw_662 : (Cond.methodLink "DeltaViewsLaw" (31 : Nat) ({ cls := "DeltaViewsModel", name := "join", desc := "(IIIII)I" } : Jvm.MethodName)) ∈ tblG := tg (i := 698) (by decide +kernel) (by decide +kernel)
theorem tw_663 : (Cond.instanceMethod ({ cls := "DeltaViewsModel", name := "join", desc := "(IIIII)I" } : Jvm.MethodName)) ∈ tblG := tg (i := 699) (by decide +kernel) (by decide +kernel)
theorem tw_664 : (Cond.selects "DeltaViewsModel" ({ cls := "DeltaViewsModel", name := "join", desc := "(IIIII)I" } : Jvm.MethodName) ({ cls := "DeltaViewsModel", name := "join", desc := "(IIIII)I" } : Jvm.MethodName)) ∈ tblG := tg (i := 700) (by decide +kernel) (by decide +kernel)
theorem tw_665 : (Cond.code ({ cls := "DeltaViewsModel", name := "join", desc := "(IIIII)I" } : Jvm.MethodName) prog_13_method_19_code (6 : Nat) (Option.some FieldType.int)) ∈ tblG := tg (i := 701) (by decide +kernel) (by decide +kernel)
theorem tw_666 : (Cond.methodLink "DeltaViewsLaw" (36 : Nat) ({ cls := "DeltaViewsModel", name := "combine", desc := "(III)I" } : Jvm.MethodName)) ∈ tblG := tg (i := 702) (by decide +kernel) (by decide +kernel)
theorem tw_667 : (Cond.instanceMethod ({ cls := "DeltaViewsModel", name := "combine", desc := "(III)I" } : Jvm.MethodName)) ∈ tblG := tg (i := 703) (by decide +kernel) (by decide +kernel)
theorem tw_668 : (Cond.selects "DeltaViewsModel" ({ cls := "DeltaViewsModel", name := "combine", desc := "(III)I" } : Jvm.MethodName) ({ cls := "DeltaViewsModel", name := "combine", desc := "(III)I" } : Jvm.MethodName)) ∈ tblG := tg (i := 704) (by decide +kernel) (by decide +kernel)
theorem tw_669 : (Cond.code ({ cls := "DeltaViewsModel", name := "combine", desc := "(III)I" } : Jvm.MethodName) prog_13_method_20_code (4 : Nat) (Option.some FieldType.int)) ∈ tblG := tg (i := 705) (by decide +kernel) (by decide +kernel)
theorem tw_670 : (Cond.methodLink "DeltaViewsLaw" (40 : Nat) ({ cls := "DeltaViewsModel", name := "distinct", desc := "(I)I" } : Jvm.MethodName)) ∈ tblG := tg (i := 706) (by decide +kernel) (by decide +kernel)
theorem tw_671 : (Cond.instanceMethod ({ cls := "DeltaViewsModel", name := "distinct", desc := "(I)I" } : Jvm.MethodName)) ∈ tblG := tg (i := 707) (by decide +kernel) (by decide +kernel)
theorem tw_672 : (Cond.selects "DeltaViewsModel" ({ cls := "DeltaViewsModel", name := "distinct", desc := "(I)I" } : Jvm.MethodName) ({ cls := "DeltaViewsModel", name := "distinct", desc := "(I)I" } : Jvm.MethodName)) ∈ tblG := tg (i := 708) (by decide +kernel) (by decide +kernel)
theorem tw_673 : (Cond.code ({ cls := "DeltaViewsModel", name := "distinct", desc := "(I)I" } : Jvm.MethodName) prog_13_method_21_code (2 : Nat) (Option.some FieldType.int)) ∈ tblG := tg (i := 709) (by decide +kernel) (by decide +kernel)
theorem tw_674 : (Cond.methodLink "DeltaViewsLaw" (44 : Nat) ({ cls := "DeltaViewsModel", name := "group", desc := "(IIII)I" } : Jvm.MethodName)) ∈ tblG := tg (i := 710) (by decide +kernel) (by decide +kernel)
theorem tw_675 : (Cond.instanceMethod ({ cls := "DeltaViewsModel", name := "group", desc := "(IIII)I" } : Jvm.MethodName)) ∈ tblG := tg (i := 711) (by decide +kernel) (by decide +kernel)
theorem tw_676 : (Cond.selects "DeltaViewsModel" ({ cls := "DeltaViewsModel", name := "group", desc := "(IIII)I" } : Jvm.MethodName) ({ cls := "DeltaViewsModel", name := "group", desc := "(IIII)I" } : Jvm.MethodName)) ∈ tblG := tg (i := 712) (by decide +kernel) (by decide +kernel)
theorem tw_677 : (Cond.code ({ cls := "DeltaViewsModel", name := "group", desc := "(IIII)I" } : Jvm.MethodName) prog_13_method_22_code (5 : Nat) (Option.some FieldType.int)) ∈ tblG := tg (i := 713) (by decide +kernel) (by decide +kernel)
theorem tw_678 : (Cond.methodLink "DeltaViewsLaw" (48 : Nat) ({ cls := "DeltaViewsModel", name := "change", desc := "(IIIII)I" } : Jvm.MethodName)) ∈ tblG := tg (i := 714) (by decide +kernel) (by decide +kernel)
theorem tw_679 : (Cond.instanceMethod ({ cls := "DeltaViewsModel", name := "change", desc := "(IIIII)I" } : Jvm.MethodName)) ∈ tblG := tg (i := 715) (by decide +kernel) (by decide +kernel)
theorem tw_680 : (Cond.selects "DeltaViewsModel" ({ cls := "DeltaViewsModel", name := "change", desc := "(IIIII)I" } : Jvm.MethodName) ({ cls := "DeltaViewsModel", name := "change", desc := "(IIIII)I" } : Jvm.MethodName)) ∈ tblG := tg (i := 716) (by decide +kernel) (by decide +kernel)
theorem tw_681 : (Cond.code ({ cls := "DeltaViewsModel", name := "change", desc := "(IIIII)I" } : Jvm.MethodName) prog_13_method_23_code (6 : Nat) (Option.some FieldType.int)) ∈ tblG := tg (i := 717) (by decide +kernel) (by decide +kernel)
theorem tw_682 : (Cond.methodLink "DeltaViewsLaw" (53 : Nat) ({ cls := "DeltaViewsModel", name := "step", desc := "()I" } : Jvm.MethodName)) ∈ tblG := tg (i := 718) (by decide +kernel) (by decide +kernel)
theorem tw_683 : (Cond.instanceMethod ({ cls := "DeltaViewsModel", name := "step", desc := "()I" } : Jvm.MethodName)) ∈ tblG := tg (i := 719) (by decide +kernel) (by decide +kernel)
theorem tw_684 : (Cond.selects "DeltaViewsModel" ({ cls := "DeltaViewsModel", name := "step", desc := "()I" } : Jvm.MethodName) ({ cls := "DeltaViewsModel", name := "step", desc := "()I" } : Jvm.MethodName)) ∈ tblG := tg (i := 720) (by decide +kernel) (by decide +kernel)
theorem tw_685 : (Cond.code ({ cls := "DeltaViewsModel", name := "step", desc := "()I" } : Jvm.MethodName) prog_13_method_27_code (3 : Nat) (Option.some FieldType.int)) ∈ tblG := tg (i := 721) (by decide +kernel) (by decide +kernel)
theorem tw_686 : (Cond.methodLink "DeltaViewsModel" (126 : Nat) ({ cls := "DeltaViewsModel", name := "workTable", desc := "(I)V" } : Jvm.MethodName)) ∈ tblG := tg (i := 722) (by decide +kernel) (by decide +kernel)
theorem tw_688 : (Cond.instanceMethod ({ cls := "DeltaViewsModel", name := "workTable", desc := "(I)V" } : Jvm.MethodName)) ∈ tblG := tg (i := 724) (by decide +kernel) (by decide +kernel)
theorem tw_689 : (Cond.code ({ cls := "DeltaViewsModel", name := "workTable", desc := "(I)V" } : Jvm.MethodName) prog_13_method_24_code (3 : Nat) (Option.none : Option Jvm.ClassFile.FieldType)) ∈ tblG := tg (i := 725) (by decide +kernel) (by decide +kernel)
theorem tw_690 : (Cond.methodLink "DeltaViewsModel" (130 : Nat) ({ cls := "DeltaViewsModel", name := "differing", desc := "(I)I" } : Jvm.MethodName)) ∈ tblG := tg (i := 726) (by decide +kernel) (by decide +kernel)
theorem tw_692 : (Cond.instanceMethod ({ cls := "DeltaViewsModel", name := "differing", desc := "(I)I" } : Jvm.MethodName)) ∈ tblG := tg (i := 728) (by decide +kernel) (by decide +kernel)
theorem tw_693 : (Cond.code ({ cls := "DeltaViewsModel", name := "differing", desc := "(I)I" } : Jvm.MethodName) prog_13_method_25_code (6 : Nat) (Option.some FieldType.int)) ∈ tblG := tg (i := 729) (by decide +kernel) (by decide +kernel)
theorem tw_694 : (Cond.methodLink "DeltaViewsModel" (122 : Nat) ({ cls := "DeltaViewsModel", name := "weightIn", desc := "(IIII)J" } : Jvm.MethodName)) ∈ tblG := tg (i := 730) (by decide +kernel) (by decide +kernel)
theorem tw_696 : (Cond.instanceMethod ({ cls := "DeltaViewsModel", name := "weightIn", desc := "(IIII)J" } : Jvm.MethodName)) ∈ tblG := tg (i := 732) (by decide +kernel) (by decide +kernel)
theorem tw_697 : (Cond.code ({ cls := "DeltaViewsModel", name := "weightIn", desc := "(IIII)J" } : Jvm.MethodName) prog_13_method_7_code (6 : Nat) (Option.some FieldType.long)) ∈ tblG := tg (i := 733) (by decide +kernel) (by decide +kernel)
theorem tw_698 : (Cond.methodLink "DeltaViewsModel" (134 : Nat) ({ cls := "DeltaViewsModel", name := "adopt", desc := "(I)V" } : Jvm.MethodName)) ∈ tblG := tg (i := 734) (by decide +kernel) (by decide +kernel)
theorem tw_700 : (Cond.instanceMethod ({ cls := "DeltaViewsModel", name := "adopt", desc := "(I)V" } : Jvm.MethodName)) ∈ tblG := tg (i := 736) (by decide +kernel) (by decide +kernel)
theorem tw_701 : (Cond.code ({ cls := "DeltaViewsModel", name := "adopt", desc := "(I)V" } : Jvm.MethodName) prog_13_method_26_code (4 : Nat) (Option.none : Option Jvm.ClassFile.FieldType)) ∈ tblG := tg (i := 737) (by decide +kernel) (by decide +kernel)
theorem tw_702 : (Cond.methodLink "DeltaViewsLaw" (57 : Nat) ({ cls := "DeltaViewsModel", name := "drop", desc := "()I" } : Jvm.MethodName)) ∈ tblG := tg (i := 738) (by decide +kernel) (by decide +kernel)
theorem tw_703 : (Cond.instanceMethod ({ cls := "DeltaViewsModel", name := "drop", desc := "()I" } : Jvm.MethodName)) ∈ tblG := tg (i := 739) (by decide +kernel) (by decide +kernel)
theorem tw_704 : (Cond.selects "DeltaViewsModel" ({ cls := "DeltaViewsModel", name := "drop", desc := "()I" } : Jvm.MethodName) ({ cls := "DeltaViewsModel", name := "drop", desc := "()I" } : Jvm.MethodName)) ∈ tblG := tg (i := 740) (by decide +kernel) (by decide +kernel)
theorem tw_705 : (Cond.code ({ cls := "DeltaViewsModel", name := "drop", desc := "()I" } : Jvm.MethodName) prog_13_method_28_code (2 : Nat) (Option.some FieldType.int)) ∈ tblG := tg (i := 741) (by decide +kernel) (by decide +kernel)
theorem tw_706 : (Cond.methodLink "DeltaViewsLaw" (62 : Nat) ({ cls := "DeltaViewsModel", name := "weight", desc := "(IIII)J" } : Jvm.MethodName)) ∈ tblG := tg (i := 742) (by decide +kernel) (by decide +kernel)
theorem tw_707 : (Cond.instanceMethod ({ cls := "DeltaViewsModel", name := "weight", desc := "(IIII)J" } : Jvm.MethodName)) ∈ tblG := tg (i := 743) (by decide +kernel) (by decide +kernel)
theorem tw_708 : (Cond.selects "DeltaViewsModel" ({ cls := "DeltaViewsModel", name := "weight", desc := "(IIII)J" } : Jvm.MethodName) ({ cls := "DeltaViewsModel", name := "weight", desc := "(IIII)J" } : Jvm.MethodName)) ∈ tblG := tg (i := 744) (by decide +kernel) (by decide +kernel)
theorem tw_709 : (Cond.code ({ cls := "DeltaViewsModel", name := "weight", desc := "(IIII)J" } : Jvm.MethodName) prog_13_method_29_code (5 : Nat) (Option.some FieldType.long)) ∈ tblG := tg (i := 745) (by decide +kernel) (by decide +kernel)
theorem tw_710 : (Cond.constantLong "DeltaViewsModel" (137 : Nat) (-1000000000000 : Int64)) ∈ tblG := tg (i := 746) (by decide +kernel) (by decide +kernel)
theorem tw_711 : (Cond.methodLink "DeltaViewsLaw" (66 : Nat) ({ cls := "DeltaViewsModel", name := "inTable", desc := "(IIII)J" } : Jvm.MethodName)) ∈ tblG := tg (i := 747) (by decide +kernel) (by decide +kernel)
theorem tw_712 : (Cond.instanceMethod ({ cls := "DeltaViewsModel", name := "inTable", desc := "(IIII)J" } : Jvm.MethodName)) ∈ tblG := tg (i := 748) (by decide +kernel) (by decide +kernel)
theorem tw_713 : (Cond.selects "DeltaViewsModel" ({ cls := "DeltaViewsModel", name := "inTable", desc := "(IIII)J" } : Jvm.MethodName) ({ cls := "DeltaViewsModel", name := "inTable", desc := "(IIII)J" } : Jvm.MethodName)) ∈ tblG := tg (i := 749) (by decide +kernel) (by decide +kernel)
theorem tw_714 : (Cond.code ({ cls := "DeltaViewsModel", name := "inTable", desc := "(IIII)J" } : Jvm.MethodName) prog_13_method_30_code (5 : Nat) (Option.some FieldType.long)) ∈ tblG := tg (i := 750) (by decide +kernel) (by decide +kernel)
theorem tw_715 : (Cond.methodLink "DeltaViewsLaw" (70 : Nat) ({ cls := "DeltaViewsModel", name := "rows", desc := "(I)I" } : Jvm.MethodName)) ∈ tblG := tg (i := 751) (by decide +kernel) (by decide +kernel)
theorem tw_716 : (Cond.instanceMethod ({ cls := "DeltaViewsModel", name := "rows", desc := "(I)I" } : Jvm.MethodName)) ∈ tblG := tg (i := 752) (by decide +kernel) (by decide +kernel)
theorem tw_717 : (Cond.selects "DeltaViewsModel" ({ cls := "DeltaViewsModel", name := "rows", desc := "(I)I" } : Jvm.MethodName) ({ cls := "DeltaViewsModel", name := "rows", desc := "(I)I" } : Jvm.MethodName)) ∈ tblG := tg (i := 753) (by decide +kernel) (by decide +kernel)
theorem tw_718 : (Cond.code ({ cls := "DeltaViewsModel", name := "rows", desc := "(I)I" } : Jvm.MethodName) prog_13_method_31_code (2 : Nat) (Option.some FieldType.int)) ∈ tblG := tg (i := 754) (by decide +kernel) (by decide +kernel)
theorem tw_719 : (Cond.methodLink "DeltaViewsLaw" (75 : Nat) ({ cls := "DeltaViewsModel", name := "cell", desc := "(III)J" } : Jvm.MethodName)) ∈ tblG := tg (i := 755) (by decide +kernel) (by decide +kernel)
theorem tw_720 : (Cond.instanceMethod ({ cls := "DeltaViewsModel", name := "cell", desc := "(III)J" } : Jvm.MethodName)) ∈ tblG := tg (i := 756) (by decide +kernel) (by decide +kernel)
theorem tw_721 : (Cond.selects "DeltaViewsModel" ({ cls := "DeltaViewsModel", name := "cell", desc := "(III)J" } : Jvm.MethodName) ({ cls := "DeltaViewsModel", name := "cell", desc := "(III)J" } : Jvm.MethodName)) ∈ tblG := tg (i := 757) (by decide +kernel) (by decide +kernel)
theorem tw_722 : (Cond.code ({ cls := "DeltaViewsModel", name := "cell", desc := "(III)J" } : Jvm.MethodName) prog_13_method_32_code (4 : Nat) (Option.some FieldType.long)) ∈ tblG := tg (i := 758) (by decide +kernel) (by decide +kernel)
theorem tw_723 : (Cond.methodLink "DeltaViewsLaw" (80 : Nat) ({ cls := "DeltaViewsModel", name := "total", desc := "(I)J" } : Jvm.MethodName)) ∈ tblG := tg (i := 759) (by decide +kernel) (by decide +kernel)
theorem tw_724 : (Cond.instanceMethod ({ cls := "DeltaViewsModel", name := "total", desc := "(I)J" } : Jvm.MethodName)) ∈ tblG := tg (i := 760) (by decide +kernel) (by decide +kernel)
theorem tw_725 : (Cond.selects "DeltaViewsModel" ({ cls := "DeltaViewsModel", name := "total", desc := "(I)J" } : Jvm.MethodName) ({ cls := "DeltaViewsModel", name := "total", desc := "(I)J" } : Jvm.MethodName)) ∈ tblG := tg (i := 761) (by decide +kernel) (by decide +kernel)
theorem tw_726 : (Cond.code ({ cls := "DeltaViewsModel", name := "total", desc := "(I)J" } : Jvm.MethodName) prog_13_method_33_code (5 : Nat) (Option.some FieldType.long)) ∈ tblG := tg (i := 762) (by decide +kernel) (by decide +kernel)
theorem tw_727 : (Cond.methodLink "DeltaViewsLaw" (84 : Nat) ({ cls := "DeltaViewsModel", name := "changed", desc := "(I)I" } : Jvm.MethodName)) ∈ tblG := tg (i := 763) (by decide +kernel) (by decide +kernel)
theorem tw_728 : (Cond.instanceMethod ({ cls := "DeltaViewsModel", name := "changed", desc := "(I)I" } : Jvm.MethodName)) ∈ tblG := tg (i := 764) (by decide +kernel) (by decide +kernel)
theorem tw_729 : (Cond.selects "DeltaViewsModel" ({ cls := "DeltaViewsModel", name := "changed", desc := "(I)I" } : Jvm.MethodName) ({ cls := "DeltaViewsModel", name := "changed", desc := "(I)I" } : Jvm.MethodName)) ∈ tblG := tg (i := 765) (by decide +kernel) (by decide +kernel)
theorem tw_730 : (Cond.code ({ cls := "DeltaViewsModel", name := "changed", desc := "(I)I" } : Jvm.MethodName) prog_13_method_34_code (2 : Nat) (Option.some FieldType.int)) ∈ tblG := tg (i := 766) (by decide +kernel) (by decide +kernel)
theorem tw_731 : (Cond.methodLink "DeltaViewsLaw" (89 : Nat) ({ cls := "DeltaViewsModel", name := "mean", desc := "(II)D" } : Jvm.MethodName)) ∈ tblG := tg (i := 767) (by decide +kernel) (by decide +kernel)
theorem tw_732 : (Cond.instanceMethod ({ cls := "DeltaViewsModel", name := "mean", desc := "(II)D" } : Jvm.MethodName)) ∈ tblG := tg (i := 768) (by decide +kernel) (by decide +kernel)
theorem tw_733 : (Cond.selects "DeltaViewsModel" ({ cls := "DeltaViewsModel", name := "mean", desc := "(II)D" } : Jvm.MethodName) ({ cls := "DeltaViewsModel", name := "mean", desc := "(II)D" } : Jvm.MethodName)) ∈ tblG := tg (i := 769) (by decide +kernel) (by decide +kernel)
theorem tw_734 : (Cond.code ({ cls := "DeltaViewsModel", name := "mean", desc := "(II)D" } : Jvm.MethodName) prog_13_method_35_code (8 : Nat) (Option.some FieldType.double)) ∈ tblG := tg (i := 770) (by decide +kernel) (by decide +kernel)
theorem tw_735 : (Cond.methodLink "DeltaViewsModel" (139 : Nat) ({ cls := "DeltaViewsModel", name := "total", desc := "(I)J" } : Jvm.MethodName)) ∈ tblG := tg (i := 771) (by decide +kernel) (by decide +kernel)
theorem tw_736 : (Cond.methodLink "DeltaViewsLaw" (93 : Nat) ({ cls := "DeltaViewsModel", name := "count", desc := "(I)I" } : Jvm.MethodName)) ∈ tblG := tg (i := 772) (by decide +kernel) (by decide +kernel)
theorem tw_737 : (Cond.instanceMethod ({ cls := "DeltaViewsModel", name := "count", desc := "(I)I" } : Jvm.MethodName)) ∈ tblG := tg (i := 773) (by decide +kernel) (by decide +kernel)
theorem tw_738 : (Cond.selects "DeltaViewsModel" ({ cls := "DeltaViewsModel", name := "count", desc := "(I)I" } : Jvm.MethodName) ({ cls := "DeltaViewsModel", name := "count", desc := "(I)I" } : Jvm.MethodName)) ∈ tblG := tg (i := 774) (by decide +kernel) (by decide +kernel)
theorem tw_739 : (Cond.code ({ cls := "DeltaViewsModel", name := "count", desc := "(I)I" } : Jvm.MethodName) prog_13_method_36_code (2 : Nat) (Option.some FieldType.int)) ∈ tblG := tg (i := 775) (by decide +kernel) (by decide +kernel)
theorem ts_0 : Cond.selects "DeltaViews" ({ cls := "DeltaViews", name := "make", desc := "(LDeltaViews$Rule;)I" } : Jvm.MethodName) ({ cls := "DeltaViews", name := "make", desc := "(LDeltaViews$Rule;)I" } : Jvm.MethodName) ∈ tblG := tg (i := 0) (by decide +kernel) (by decide +kernel)
theorem ts_1 : Cond.selects "DeltaViews" ({ cls := "DeltaViews", name := "fillNode", desc := "(LDeltaViews$Rule;[LDeltaViews$Rows;I)Z" } : Jvm.MethodName) ({ cls := "DeltaViews", name := "fillNode", desc := "(LDeltaViews$Rule;[LDeltaViews$Rows;I)Z" } : Jvm.MethodName) ∈ tblG := tg (i := 1) (by decide +kernel) (by decide +kernel)
theorem ts_2 : Cond.selects "DeltaViews$Rows" ({ cls := "DeltaViews$Rows", name := "placeOf", desc := "(III)I" } : Jvm.MethodName) ({ cls := "DeltaViews$Rows", name := "placeOf", desc := "(III)I" } : Jvm.MethodName) ∈ tblG := tg (i := 2) (by decide +kernel) (by decide +kernel)
theorem ts_3 : Cond.selects "DeltaViews$Rows" ({ cls := "DeltaViews$Rows", name := "compareAt", desc := "(IIII)I" } : Jvm.MethodName) ({ cls := "DeltaViews$Rows", name := "compareAt", desc := "(IIII)I" } : Jvm.MethodName) ∈ tblG := tg (i := 3) (by decide +kernel) (by decide +kernel)
theorem ts_4 : Cond.selects "DeltaViews$Rows" ({ cls := "DeltaViews$Rows", name := "isAt", desc := "(IIII)Z" } : Jvm.MethodName) ({ cls := "DeltaViews$Rows", name := "isAt", desc := "(IIII)Z" } : Jvm.MethodName) ∈ tblG := tg (i := 4) (by decide +kernel) (by decide +kernel)
theorem ts_5 : Cond.selects "DeltaViews$Rows" ({ cls := "DeltaViews$Rows", name := "insertAt", desc := "(IIIIJ)V" } : Jvm.MethodName) ({ cls := "DeltaViews$Rows", name := "insertAt", desc := "(IIIIJ)V" } : Jvm.MethodName) ∈ tblG := tg (i := 5) (by decide +kernel) (by decide +kernel)
theorem ts_6 : Cond.selects "DeltaViews$FilterRule" ({ cls := "DeltaViews$FilterRule", name := "lets", desc := "(I)Z" } : Jvm.MethodName) ({ cls := "DeltaViews$FilterRule", name := "lets", desc := "(I)Z" } : Jvm.MethodName) ∈ tblG := tg (i := 6) (by decide +kernel) (by decide +kernel)
theorem ts_7 : Cond.selects "DeltaViews$GroupRule" ({ cls := "DeltaViews$GroupRule", name := "isFirstOfItsKey", desc := "(LDeltaViews$Rows;I)Z" } : Jvm.MethodName) ({ cls := "DeltaViews$GroupRule", name := "isFirstOfItsKey", desc := "(LDeltaViews$Rows;I)Z" } : Jvm.MethodName) ∈ tblG := tg (i := 7) (by decide +kernel) (by decide +kernel)
theorem ts_8 : Cond.selects "DeltaViews$GroupRule" ({ cls := "DeltaViews$GroupRule", name := "isWith", desc := "(LDeltaViews$Rows;II)Z" } : Jvm.MethodName) ({ cls := "DeltaViews$GroupRule", name := "isWith", desc := "(LDeltaViews$Rows;II)Z" } : Jvm.MethodName) ∈ tblG := tg (i := 8) (by decide +kernel) (by decide +kernel)
theorem ts_9 : Cond.selects "DeltaViews$GroupRule" ({ cls := "DeltaViews$GroupRule", name := "valueFrom", desc := "(LDeltaViews$Rows;I)I" } : Jvm.MethodName) ({ cls := "DeltaViews$GroupRule", name := "valueFrom", desc := "(LDeltaViews$Rows;I)I" } : Jvm.MethodName) ∈ tblG := tg (i := 9) (by decide +kernel) (by decide +kernel)
theorem ts_10 : Cond.selects "DeltaViews$GroupRule" ({ cls := "DeltaViews$GroupRule", name := "startValue", desc := "(LDeltaViews$Rows;I)I" } : Jvm.MethodName) ({ cls := "DeltaViews$GroupRule", name := "startValue", desc := "(LDeltaViews$Rows;I)I" } : Jvm.MethodName) ∈ tblG := tg (i := 10) (by decide +kernel) (by decide +kernel)
theorem ts_11 : Cond.selects "DeltaViews$GroupRule" ({ cls := "DeltaViews$GroupRule", name := "joined", desc := "(II)I" } : Jvm.MethodName) ({ cls := "DeltaViews$GroupRule", name := "joined", desc := "(II)I" } : Jvm.MethodName) ∈ tblG := tg (i := 11) (by decide +kernel) (by decide +kernel)
theorem ts_12 : Cond.selects "DeltaViews" ({ cls := "DeltaViews", name := "settleWork", desc := "(LDeltaViews$Rows;)Z" } : Jvm.MethodName) ({ cls := "DeltaViews", name := "settleWork", desc := "(LDeltaViews$Rows;)Z" } : Jvm.MethodName) ∈ tblG := tg (i := 12) (by decide +kernel) (by decide +kernel)
theorem ts_13 : Cond.selects "DeltaViews" ({ cls := "DeltaViews", name := "isNode", desc := "(I)Z" } : Jvm.MethodName) ({ cls := "DeltaViews", name := "isNode", desc := "(I)Z" } : Jvm.MethodName) ∈ tblG := tg (i := 13) (by decide +kernel) (by decide +kernel)
theorem ts_14 : Cond.selects "DeltaViews" ({ cls := "DeltaViews", name := "wouldFallBelowZero", desc := "()Z" } : Jvm.MethodName) ({ cls := "DeltaViews", name := "wouldFallBelowZero", desc := "()Z" } : Jvm.MethodName) ∈ tblG := tg (i := 14) (by decide +kernel) (by decide +kernel)
theorem ts_15 : Cond.selects "DeltaViews" ({ cls := "DeltaViews", name := "gatherTable", desc := "(I)V" } : Jvm.MethodName) ({ cls := "DeltaViews", name := "gatherTable", desc := "(I)V" } : Jvm.MethodName) ∈ tblG := tg (i := 15) (by decide +kernel) (by decide +kernel)
theorem ts_16 : Cond.selects "DeltaViews" ({ cls := "DeltaViews", name := "fillNextTables", desc := "()Z" } : Jvm.MethodName) ({ cls := "DeltaViews", name := "fillNextTables", desc := "()Z" } : Jvm.MethodName) ∈ tblG := tg (i := 16) (by decide +kernel) (by decide +kernel)
theorem ts_17 : Cond.selects "DeltaViews" ({ cls := "DeltaViews", name := "noteChangesSince", desc := "([LDeltaViews$Rows;)I" } : Jvm.MethodName) ({ cls := "DeltaViews", name := "noteChangesSince", desc := "([LDeltaViews$Rows;)I" } : Jvm.MethodName) ∈ tblG := tg (i := 17) (by decide +kernel) (by decide +kernel)
theorem ts_18 : Cond.selects "DeltaViews" ({ cls := "DeltaViews", name := "rowsOf", desc := "(I)LDeltaViews$Rows;" } : Jvm.MethodName) ({ cls := "DeltaViews", name := "rowsOf", desc := "(I)LDeltaViews$Rows;" } : Jvm.MethodName) ∈ tblG := tg (i := 18) (by decide +kernel) (by decide +kernel)
theorem ts_19 : Cond.selects "DeltaViewsModel" ({ cls := "DeltaViewsModel", name := "out", desc := "(II)Z" } : Jvm.MethodName) ({ cls := "DeltaViewsModel", name := "out", desc := "(II)Z" } : Jvm.MethodName) ∈ tblG := tg (i := 19) (by decide +kernel) (by decide +kernel)
theorem ts_20 : Cond.selects "DeltaViewsModel" ({ cls := "DeltaViewsModel", name := "make", desc := "(IIIIII)I" } : Jvm.MethodName) ({ cls := "DeltaViewsModel", name := "make", desc := "(IIIIII)I" } : Jvm.MethodName) ∈ tblG := tg (i := 20) (by decide +kernel) (by decide +kernel)
theorem ts_21 : Cond.selects "DeltaViewsModel" ({ cls := "DeltaViewsModel", name := "evaluate", desc := "(II)Z" } : Jvm.MethodName) ({ cls := "DeltaViewsModel", name := "evaluate", desc := "(II)Z" } : Jvm.MethodName) ∈ tblG := tg (i := 21) (by decide +kernel) (by decide +kernel)
theorem ts_22 : Cond.selects "DeltaViewsModel" ({ cls := "DeltaViewsModel", name := "joinOne", desc := "(III)V" } : Jvm.MethodName) ({ cls := "DeltaViewsModel", name := "joinOne", desc := "(III)V" } : Jvm.MethodName) ∈ tblG := tg (i := 22) (by decide +kernel) (by decide +kernel)
theorem ts_23 : Cond.selects "DeltaViewsModel" ({ cls := "DeltaViewsModel", name := "column", desc := "(II)I" } : Jvm.MethodName) ({ cls := "DeltaViewsModel", name := "column", desc := "(II)I" } : Jvm.MethodName) ∈ tblG := tg (i := 23) (by decide +kernel) (by decide +kernel)
theorem ts_24 : Cond.selects "DeltaViewsModel" ({ cls := "DeltaViewsModel", name := "picked", desc := "(III)I" } : Jvm.MethodName) ({ cls := "DeltaViewsModel", name := "picked", desc := "(III)I" } : Jvm.MethodName) ∈ tblG := tg (i := 24) (by decide +kernel) (by decide +kernel)
theorem ts_25 : Cond.selects "DeltaViewsModel" ({ cls := "DeltaViewsModel", name := "emit", desc := "(IIIJ)V" } : Jvm.MethodName) ({ cls := "DeltaViewsModel", name := "emit", desc := "(IIIJ)V" } : Jvm.MethodName) ∈ tblG := tg (i := 25) (by decide +kernel) (by decide +kernel)
theorem ts_26 : Cond.selects "DeltaViewsModel" ({ cls := "DeltaViewsModel", name := "unary", desc := "(III)V" } : Jvm.MethodName) ({ cls := "DeltaViewsModel", name := "unary", desc := "(III)V" } : Jvm.MethodName) ∈ tblG := tg (i := 26) (by decide +kernel) (by decide +kernel)
theorem ts_27 : Cond.selects "DeltaViewsModel" ({ cls := "DeltaViewsModel", name := "passes", desc := "(III)Z" } : Jvm.MethodName) ({ cls := "DeltaViewsModel", name := "passes", desc := "(III)Z" } : Jvm.MethodName) ∈ tblG := tg (i := 27) (by decide +kernel) (by decide +kernel)
theorem ts_28 : Cond.selects "DeltaViewsModel" ({ cls := "DeltaViewsModel", name := "mapped", desc := "(II)I" } : Jvm.MethodName) ({ cls := "DeltaViewsModel", name := "mapped", desc := "(II)I" } : Jvm.MethodName) ∈ tblG := tg (i := 28) (by decide +kernel) (by decide +kernel)
theorem ts_29 : Cond.selects "DeltaViewsModel" ({ cls := "DeltaViewsModel", name := "grouped", desc := "(III)I" } : Jvm.MethodName) ({ cls := "DeltaViewsModel", name := "grouped", desc := "(III)I" } : Jvm.MethodName) ∈ tblG := tg (i := 29) (by decide +kernel) (by decide +kernel)
theorem ts_30 : Cond.selects "DeltaViewsModel" ({ cls := "DeltaViewsModel", name := "settle", desc := "(II)Z" } : Jvm.MethodName) ({ cls := "DeltaViewsModel", name := "settle", desc := "(II)Z" } : Jvm.MethodName) ∈ tblG := tg (i := 30) (by decide +kernel) (by decide +kernel)
theorem ts_31 : Cond.selects "DeltaViewsModel" ({ cls := "DeltaViewsModel", name := "before", desc := "(II)Z" } : Jvm.MethodName) ({ cls := "DeltaViewsModel", name := "before", desc := "(II)Z" } : Jvm.MethodName) ∈ tblG := tg (i := 31) (by decide +kernel) (by decide +kernel)
theorem ts_32 : Cond.selects "DeltaViewsModel" ({ cls := "DeltaViewsModel", name := "workTable", desc := "(I)V" } : Jvm.MethodName) ({ cls := "DeltaViewsModel", name := "workTable", desc := "(I)V" } : Jvm.MethodName) ∈ tblG := tg (i := 32) (by decide +kernel) (by decide +kernel)
theorem ts_33 : Cond.selects "DeltaViewsModel" ({ cls := "DeltaViewsModel", name := "differing", desc := "(I)I" } : Jvm.MethodName) ({ cls := "DeltaViewsModel", name := "differing", desc := "(I)I" } : Jvm.MethodName) ∈ tblG := tg (i := 33) (by decide +kernel) (by decide +kernel)
theorem ts_34 : Cond.selects "DeltaViewsModel" ({ cls := "DeltaViewsModel", name := "weightIn", desc := "(IIII)J" } : Jvm.MethodName) ({ cls := "DeltaViewsModel", name := "weightIn", desc := "(IIII)J" } : Jvm.MethodName) ∈ tblG := tg (i := 34) (by decide +kernel) (by decide +kernel)
theorem ts_35 : Cond.selects "DeltaViewsModel" ({ cls := "DeltaViewsModel", name := "adopt", desc := "(I)V" } : Jvm.MethodName) ({ cls := "DeltaViewsModel", name := "adopt", desc := "(I)V" } : Jvm.MethodName) ∈ tblG := tg (i := 35) (by decide +kernel) (by decide +kernel)
theorem hinRW : ∀ w ∈ u_ws RRW TRW 3, w ∈ tblG := List.forall_mem_cons.mpr ⟨tw_36, List.forall_mem_cons.mpr ⟨tw_38, List.forall_mem_cons.mpr ⟨tw_40, fun _ h => absurd h List.not_mem_nil⟩⟩⟩
theorem hinPD : ∀ w ∈ u_ws RPD TPD 4, w ∈ tblG := List.forall_mem_cons.mpr ⟨tw_55, List.forall_mem_cons.mpr ⟨tw_57, List.forall_mem_cons.mpr ⟨tw_59, List.forall_mem_cons.mpr ⟨tw_61, fun _ h => absurd h List.not_mem_nil⟩⟩⟩⟩
theorem hinTR : ∀ w ∈ u_ws RTR TTR 1, w ∈ tblG := List.forall_mem_cons.mpr ⟨tw_108, fun _ h => absurd h List.not_mem_nil⟩
theorem hinFR : ∀ w ∈ u_ws RFR TFR 4, w ∈ tblG := List.forall_mem_cons.mpr ⟨tw_310, List.forall_mem_cons.mpr ⟨tw_312, List.forall_mem_cons.mpr ⟨tw_314, List.forall_mem_cons.mpr ⟨tw_316, fun _ h => absurd h List.not_mem_nil⟩⟩⟩⟩
theorem hinMR : ∀ w ∈ u_ws RMR TMR 4, w ∈ tblG := List.forall_mem_cons.mpr ⟨tw_333, List.forall_mem_cons.mpr ⟨tw_335, List.forall_mem_cons.mpr ⟨tw_337, List.forall_mem_cons.mpr ⟨tw_339, fun _ h => absurd h List.not_mem_nil⟩⟩⟩⟩
theorem hinJR : ∀ w ∈ u_ws RJR TJR 5, w ∈ tblG := List.forall_mem_cons.mpr ⟨tw_357, List.forall_mem_cons.mpr ⟨tw_359, List.forall_mem_cons.mpr ⟨tw_361, List.forall_mem_cons.mpr ⟨tw_363, List.forall_mem_cons.mpr ⟨tw_365, fun _ h => absurd h List.not_mem_nil⟩⟩⟩⟩⟩
theorem hinCR : ∀ w ∈ u_ws RCR TCR 3, w ∈ tblG := List.forall_mem_cons.mpr ⟨tw_381, List.forall_mem_cons.mpr ⟨tw_383, List.forall_mem_cons.mpr ⟨tw_385, fun _ h => absurd h List.not_mem_nil⟩⟩⟩
theorem hinDR : ∀ w ∈ u_ws RDR TDR 1, w ∈ tblG := List.forall_mem_cons.mpr ⟨tw_399, fun _ h => absurd h List.not_mem_nil⟩
theorem hinGR : ∀ w ∈ u_ws RGR TGR 4, w ∈ tblG := List.forall_mem_cons.mpr ⟨tw_415, List.forall_mem_cons.mpr ⟨tw_417, List.forall_mem_cons.mpr ⟨tw_419, List.forall_mem_cons.mpr ⟨tw_421, fun _ h => absurd h List.not_mem_nil⟩⟩⟩⟩
theorem hinDV : ∀ w ∈ u_ws RDV TDV 7, w ∈ tblG := List.forall_mem_cons.mpr ⟨tw_73, List.forall_mem_cons.mpr ⟨tw_75, List.forall_mem_cons.mpr ⟨tw_77, List.forall_mem_cons.mpr ⟨tw_79, List.forall_mem_cons.mpr ⟨tw_81, List.forall_mem_cons.mpr ⟨tw_83, List.forall_mem_cons.mpr ⟨tw_85, fun _ h => absurd h List.not_mem_nil⟩⟩⟩⟩⟩⟩⟩
theorem hinMD : ∀ w ∈ u_ws RMD TMD 20, w ∈ tblG := List.forall_mem_cons.mpr ⟨tw_555, List.forall_mem_cons.mpr ⟨tw_557, List.forall_mem_cons.mpr ⟨tw_559, List.forall_mem_cons.mpr ⟨tw_561, List.forall_mem_cons.mpr ⟨tw_563, List.forall_mem_cons.mpr ⟨tw_565, List.forall_mem_cons.mpr ⟨tw_567, List.forall_mem_cons.mpr ⟨tw_569, List.forall_mem_cons.mpr ⟨tw_571, List.forall_mem_cons.mpr ⟨tw_573, List.forall_mem_cons.mpr ⟨tw_575, List.forall_mem_cons.mpr ⟨tw_577, List.forall_mem_cons.mpr ⟨tw_579, List.forall_mem_cons.mpr ⟨tw_581, List.forall_mem_cons.mpr ⟨tw_583, List.forall_mem_cons.mpr ⟨tw_585, List.forall_mem_cons.mpr ⟨tw_587, List.forall_mem_cons.mpr ⟨tw_589, List.forall_mem_cons.mpr ⟨tw_591, List.forall_mem_cons.mpr ⟨tw_593, fun _ h => absurd h List.not_mem_nil⟩⟩⟩⟩⟩⟩⟩⟩⟩⟩⟩⟩⟩⟩⟩⟩⟩⟩⟩⟩
theorem ndDV_init : yDV_init.cls = "DeltaViews" ∧ yDV_init.cls ≠ "java/lang/invoke/MethodHandle" ∧ yDV_init.cls ≠ "java/lang/invoke/VarHandle" ∧ (parseMethodDescriptor yDV_init.desc).map (fun d => d.parameters.length) = some 0 := by decide +kernel
theorem ndDV_emptySlots : yDV_emptySlots.cls = "DeltaViews" ∧ yDV_emptySlots.cls ≠ "java/lang/invoke/MethodHandle" ∧ yDV_emptySlots.cls ≠ "java/lang/invoke/VarHandle" ∧ (parseMethodDescriptor yDV_emptySlots.desc).map (fun d => d.parameters.length) = some 0 := by decide +kernel
theorem ndRW_init : yRW_init.cls = "DeltaViews$Rows" ∧ yRW_init.cls ≠ "java/lang/invoke/MethodHandle" ∧ yRW_init.cls ≠ "java/lang/invoke/VarHandle" ∧ (parseMethodDescriptor yRW_init.desc).map (fun d => d.parameters.length) = some 1 := by decide +kernel
theorem ndPD_init : yPD_init.cls = "DeltaViews$Pending" ∧ yPD_init.cls ≠ "java/lang/invoke/MethodHandle" ∧ yPD_init.cls ≠ "java/lang/invoke/VarHandle" ∧ (parseMethodDescriptor yPD_init.desc).map (fun d => d.parameters.length) = some 0 := by decide +kernel
theorem ndDV_table : yDV_table.cls = "DeltaViews" ∧ yDV_table.cls ≠ "java/lang/invoke/MethodHandle" ∧ yDV_table.cls ≠ "java/lang/invoke/VarHandle" ∧ (parseMethodDescriptor yDV_table.desc).map (fun d => d.parameters.length) = some 1 := by decide +kernel
theorem ndDV_isTable : yDV_isTable.cls = "DeltaViews" ∧ yDV_isTable.cls ≠ "java/lang/invoke/MethodHandle" ∧ yDV_isTable.cls ≠ "java/lang/invoke/VarHandle" ∧ (parseMethodDescriptor yDV_isTable.desc).map (fun d => d.parameters.length) = some 1 := by decide +kernel
theorem ndDV_isBelow : yDV_isBelow.cls = "DeltaViews" ∧ yDV_isBelow.cls ≠ "java/lang/invoke/MethodHandle" ∧ yDV_isBelow.cls ≠ "java/lang/invoke/VarHandle" ∧ (parseMethodDescriptor yDV_isBelow.desc).map (fun d => d.parameters.length) = some 2 := by decide +kernel
theorem ndTR_init : yTR_init.cls = "DeltaViews$TableRule" ∧ yTR_init.cls ≠ "java/lang/invoke/MethodHandle" ∧ yTR_init.cls ≠ "java/lang/invoke/VarHandle" ∧ (parseMethodDescriptor yTR_init.desc).map (fun d => d.parameters.length) = some 1 := by decide +kernel
theorem ndRC_init : yRC_init.cls = "java/lang/Record" ∧ yRC_init.cls ≠ "java/lang/invoke/MethodHandle" ∧ yRC_init.cls ≠ "java/lang/invoke/VarHandle" ∧ (parseMethodDescriptor yRC_init.desc).map (fun d => d.parameters.length) = some 0 := by decide +kernel
theorem ndDV_make : yDV_make.cls = "DeltaViews" ∧ yDV_make.cls ≠ "java/lang/invoke/MethodHandle" ∧ yDV_make.cls ≠ "java/lang/invoke/VarHandle" ∧ (parseMethodDescriptor yDV_make.desc).map (fun d => d.parameters.length) = some 1 := by decide +kernel
theorem ndDV_fillNode : yDV_fillNode.cls = "DeltaViews" ∧ yDV_fillNode.cls ≠ "java/lang/invoke/MethodHandle" ∧ yDV_fillNode.cls ≠ "java/lang/invoke/VarHandle" ∧ (parseMethodDescriptor yDV_fillNode.desc).map (fun d => d.parameters.length) = some 3 := by decide +kernel
theorem ndRW_clear : yRW_clear.cls = "DeltaViews$Rows" ∧ yRW_clear.cls ≠ "java/lang/invoke/MethodHandle" ∧ yRW_clear.cls ≠ "java/lang/invoke/VarHandle" ∧ (parseMethodDescriptor yRW_clear.desc).map (fun d => d.parameters.length) = some 0 := by decide +kernel
theorem ndCR_fill : yCR_fill.cls = "DeltaViews$CombineRule" ∧ yCR_fill.cls ≠ "java/lang/invoke/MethodHandle" ∧ yCR_fill.cls ≠ "java/lang/invoke/VarHandle" ∧ (parseMethodDescriptor yCR_fill.desc).map (fun d => d.parameters.length) = some 2 := by decide +kernel
theorem ndRW_copyFrom : yRW_copyFrom.cls = "DeltaViews$Rows" ∧ yRW_copyFrom.cls ≠ "java/lang/invoke/MethodHandle" ∧ yRW_copyFrom.cls ≠ "java/lang/invoke/VarHandle" ∧ (parseMethodDescriptor yRW_copyFrom.desc).map (fun d => d.parameters.length) = some 1 := by decide +kernel
theorem ndRW_size : yRW_size.cls = "DeltaViews$Rows" ∧ yRW_size.cls ≠ "java/lang/invoke/MethodHandle" ∧ yRW_size.cls ≠ "java/lang/invoke/VarHandle" ∧ (parseMethodDescriptor yRW_size.desc).map (fun d => d.parameters.length) = some 0 := by decide +kernel
theorem ndRW_weightAt : yRW_weightAt.cls = "DeltaViews$Rows" ∧ yRW_weightAt.cls ≠ "java/lang/invoke/MethodHandle" ∧ yRW_weightAt.cls ≠ "java/lang/invoke/VarHandle" ∧ (parseMethodDescriptor yRW_weightAt.desc).map (fun d => d.parameters.length) = some 1 := by decide +kernel
theorem ndRW_addRow : yRW_addRow.cls = "DeltaViews$Rows" ∧ yRW_addRow.cls ≠ "java/lang/invoke/MethodHandle" ∧ yRW_addRow.cls ≠ "java/lang/invoke/VarHandle" ∧ (parseMethodDescriptor yRW_addRow.desc).map (fun d => d.parameters.length) = some 3 := by decide +kernel
theorem ndRW_valueAt : yRW_valueAt.cls = "DeltaViews$Rows" ∧ yRW_valueAt.cls ≠ "java/lang/invoke/MethodHandle" ∧ yRW_valueAt.cls ≠ "java/lang/invoke/VarHandle" ∧ (parseMethodDescriptor yRW_valueAt.desc).map (fun d => d.parameters.length) = some 2 := by decide +kernel
theorem ndRW_addWeight : yRW_addWeight.cls = "DeltaViews$Rows" ∧ yRW_addWeight.cls ≠ "java/lang/invoke/MethodHandle" ∧ yRW_addWeight.cls ≠ "java/lang/invoke/VarHandle" ∧ (parseMethodDescriptor yRW_addWeight.desc).map (fun d => d.parameters.length) = some 4 := by decide +kernel
theorem ndRW_placeOf : yRW_placeOf.cls = "DeltaViews$Rows" ∧ yRW_placeOf.cls ≠ "java/lang/invoke/MethodHandle" ∧ yRW_placeOf.cls ≠ "java/lang/invoke/VarHandle" ∧ (parseMethodDescriptor yRW_placeOf.desc).map (fun d => d.parameters.length) = some 3 := by decide +kernel
theorem ndRW_compareAt : yRW_compareAt.cls = "DeltaViews$Rows" ∧ yRW_compareAt.cls ≠ "java/lang/invoke/MethodHandle" ∧ yRW_compareAt.cls ≠ "java/lang/invoke/VarHandle" ∧ (parseMethodDescriptor yRW_compareAt.desc).map (fun d => d.parameters.length) = some 4 := by decide +kernel
theorem ndRW_isAt : yRW_isAt.cls = "DeltaViews$Rows" ∧ yRW_isAt.cls ≠ "java/lang/invoke/MethodHandle" ∧ yRW_isAt.cls ≠ "java/lang/invoke/VarHandle" ∧ (parseMethodDescriptor yRW_isAt.desc).map (fun d => d.parameters.length) = some 4 := by decide +kernel
theorem ndRW_insertAt : yRW_insertAt.cls = "DeltaViews$Rows" ∧ yRW_insertAt.cls ≠ "java/lang/invoke/MethodHandle" ∧ yRW_insertAt.cls ≠ "java/lang/invoke/VarHandle" ∧ (parseMethodDescriptor yRW_insertAt.desc).map (fun d => d.parameters.length) = some 5 := by decide +kernel
theorem ndDR_fill : yDR_fill.cls = "DeltaViews$DistinctRule" ∧ yDR_fill.cls ≠ "java/lang/invoke/MethodHandle" ∧ yDR_fill.cls ≠ "java/lang/invoke/VarHandle" ∧ (parseMethodDescriptor yDR_fill.desc).map (fun d => d.parameters.length) = some 2 := by decide +kernel
theorem ndFR_fill : yFR_fill.cls = "DeltaViews$FilterRule" ∧ yFR_fill.cls ≠ "java/lang/invoke/MethodHandle" ∧ yFR_fill.cls ≠ "java/lang/invoke/VarHandle" ∧ (parseMethodDescriptor yFR_fill.desc).map (fun d => d.parameters.length) = some 2 := by decide +kernel
theorem ndFR_lets : yFR_lets.cls = "DeltaViews$FilterRule" ∧ yFR_lets.cls ≠ "java/lang/invoke/MethodHandle" ∧ yFR_lets.cls ≠ "java/lang/invoke/VarHandle" ∧ (parseMethodDescriptor yFR_lets.desc).map (fun d => d.parameters.length) = some 1 := by decide +kernel
theorem ndGR_fill : yGR_fill.cls = "DeltaViews$GroupRule" ∧ yGR_fill.cls ≠ "java/lang/invoke/MethodHandle" ∧ yGR_fill.cls ≠ "java/lang/invoke/VarHandle" ∧ (parseMethodDescriptor yGR_fill.desc).map (fun d => d.parameters.length) = some 2 := by decide +kernel
theorem ndGR_isFirstOfItsKey : yGR_isFirstOfItsKey.cls = "DeltaViews$GroupRule" ∧ yGR_isFirstOfItsKey.cls ≠ "java/lang/invoke/MethodHandle" ∧ yGR_isFirstOfItsKey.cls ≠ "java/lang/invoke/VarHandle" ∧ (parseMethodDescriptor yGR_isFirstOfItsKey.desc).map (fun d => d.parameters.length) = some 2 := by decide +kernel
theorem ndGR_isWith : yGR_isWith.cls = "DeltaViews$GroupRule" ∧ yGR_isWith.cls ≠ "java/lang/invoke/MethodHandle" ∧ yGR_isWith.cls ≠ "java/lang/invoke/VarHandle" ∧ (parseMethodDescriptor yGR_isWith.desc).map (fun d => d.parameters.length) = some 3 := by decide +kernel
theorem ndGR_valueFrom : yGR_valueFrom.cls = "DeltaViews$GroupRule" ∧ yGR_valueFrom.cls ≠ "java/lang/invoke/MethodHandle" ∧ yGR_valueFrom.cls ≠ "java/lang/invoke/VarHandle" ∧ (parseMethodDescriptor yGR_valueFrom.desc).map (fun d => d.parameters.length) = some 2 := by decide +kernel
theorem ndGR_startValue : yGR_startValue.cls = "DeltaViews$GroupRule" ∧ yGR_startValue.cls ≠ "java/lang/invoke/MethodHandle" ∧ yGR_startValue.cls ≠ "java/lang/invoke/VarHandle" ∧ (parseMethodDescriptor yGR_startValue.desc).map (fun d => d.parameters.length) = some 2 := by decide +kernel
theorem ndGR_joined : yGR_joined.cls = "DeltaViews$GroupRule" ∧ yGR_joined.cls ≠ "java/lang/invoke/MethodHandle" ∧ yGR_joined.cls ≠ "java/lang/invoke/VarHandle" ∧ (parseMethodDescriptor yGR_joined.desc).map (fun d => d.parameters.length) = some 2 := by decide +kernel
theorem ndJR_fill : yJR_fill.cls = "DeltaViews$JoinRule" ∧ yJR_fill.cls ≠ "java/lang/invoke/MethodHandle" ∧ yJR_fill.cls ≠ "java/lang/invoke/VarHandle" ∧ (parseMethodDescriptor yJR_fill.desc).map (fun d => d.parameters.length) = some 2 := by decide +kernel
theorem ndJR_picked : yJR_picked.cls = "DeltaViews$JoinRule" ∧ yJR_picked.cls ≠ "java/lang/invoke/MethodHandle" ∧ yJR_picked.cls ≠ "java/lang/invoke/VarHandle" ∧ (parseMethodDescriptor yJR_picked.desc).map (fun d => d.parameters.length) = some 5 := by decide +kernel
theorem ndMR_fill : yMR_fill.cls = "DeltaViews$MapRule" ∧ yMR_fill.cls ≠ "java/lang/invoke/MethodHandle" ∧ yMR_fill.cls ≠ "java/lang/invoke/VarHandle" ∧ (parseMethodDescriptor yMR_fill.desc).map (fun d => d.parameters.length) = some 2 := by decide +kernel
theorem ndMR_coded : yMR_coded.cls = "DeltaViews$MapRule" ∧ yMR_coded.cls ≠ "java/lang/invoke/MethodHandle" ∧ yMR_coded.cls ≠ "java/lang/invoke/VarHandle" ∧ (parseMethodDescriptor yMR_coded.desc).map (fun d => d.parameters.length) = some 3 := by decide +kernel
theorem ndTR_fill : yTR_fill.cls = "DeltaViews$TableRule" ∧ yTR_fill.cls ≠ "java/lang/invoke/MethodHandle" ∧ yTR_fill.cls ≠ "java/lang/invoke/VarHandle" ∧ (parseMethodDescriptor yTR_fill.desc).map (fun d => d.parameters.length) = some 2 := by decide +kernel
theorem ndDV_slotOf : yDV_slotOf.cls = "DeltaViews" ∧ yDV_slotOf.cls ≠ "java/lang/invoke/MethodHandle" ∧ yDV_slotOf.cls ≠ "java/lang/invoke/VarHandle" ∧ (parseMethodDescriptor yDV_slotOf.desc).map (fun d => d.parameters.length) = some 1 := by decide +kernel
theorem ndDV_settleWork : yDV_settleWork.cls = "DeltaViews" ∧ yDV_settleWork.cls ≠ "java/lang/invoke/MethodHandle" ∧ yDV_settleWork.cls ≠ "java/lang/invoke/VarHandle" ∧ (parseMethodDescriptor yDV_settleWork.desc).map (fun d => d.parameters.length) = some 1 := by decide +kernel
theorem ndRW_dropZeros : yRW_dropZeros.cls = "DeltaViews$Rows" ∧ yRW_dropZeros.cls ≠ "java/lang/invoke/MethodHandle" ∧ yRW_dropZeros.cls ≠ "java/lang/invoke/VarHandle" ∧ (parseMethodDescriptor yRW_dropZeros.desc).map (fun d => d.parameters.length) = some 0 := by decide +kernel
theorem ndRW_canHold : yRW_canHold.cls = "DeltaViews$Rows" ∧ yRW_canHold.cls ≠ "java/lang/invoke/MethodHandle" ∧ yRW_canHold.cls ≠ "java/lang/invoke/VarHandle" ∧ (parseMethodDescriptor yRW_canHold.desc).map (fun d => d.parameters.length) = some 1 := by decide +kernel
theorem ndDV_filter : yDV_filter.cls = "DeltaViews" ∧ yDV_filter.cls ≠ "java/lang/invoke/MethodHandle" ∧ yDV_filter.cls ≠ "java/lang/invoke/VarHandle" ∧ (parseMethodDescriptor yDV_filter.desc).map (fun d => d.parameters.length) = some 4 := by decide +kernel
theorem ndDV_isNode : yDV_isNode.cls = "DeltaViews" ∧ yDV_isNode.cls ≠ "java/lang/invoke/MethodHandle" ∧ yDV_isNode.cls ≠ "java/lang/invoke/VarHandle" ∧ (parseMethodDescriptor yDV_isNode.desc).map (fun d => d.parameters.length) = some 1 := by decide +kernel
theorem ndDV_isColumn : yDV_isColumn.cls = "DeltaViews" ∧ yDV_isColumn.cls ≠ "java/lang/invoke/MethodHandle" ∧ yDV_isColumn.cls ≠ "java/lang/invoke/VarHandle" ∧ (parseMethodDescriptor yDV_isColumn.desc).map (fun d => d.parameters.length) = some 1 := by decide +kernel
theorem ndFR_init : yFR_init.cls = "DeltaViews$FilterRule" ∧ yFR_init.cls ≠ "java/lang/invoke/MethodHandle" ∧ yFR_init.cls ≠ "java/lang/invoke/VarHandle" ∧ (parseMethodDescriptor yFR_init.desc).map (fun d => d.parameters.length) = some 4 := by decide +kernel
theorem ndDV_map : yDV_map.cls = "DeltaViews" ∧ yDV_map.cls ≠ "java/lang/invoke/MethodHandle" ∧ yDV_map.cls ≠ "java/lang/invoke/VarHandle" ∧ (parseMethodDescriptor yDV_map.desc).map (fun d => d.parameters.length) = some 4 := by decide +kernel
theorem ndMR_init : yMR_init.cls = "DeltaViews$MapRule" ∧ yMR_init.cls ≠ "java/lang/invoke/MethodHandle" ∧ yMR_init.cls ≠ "java/lang/invoke/VarHandle" ∧ (parseMethodDescriptor yMR_init.desc).map (fun d => d.parameters.length) = some 4 := by decide +kernel
theorem ndDV_join : yDV_join.cls = "DeltaViews" ∧ yDV_join.cls ≠ "java/lang/invoke/MethodHandle" ∧ yDV_join.cls ≠ "java/lang/invoke/VarHandle" ∧ (parseMethodDescriptor yDV_join.desc).map (fun d => d.parameters.length) = some 5 := by decide +kernel
theorem ndJR_init : yJR_init.cls = "DeltaViews$JoinRule" ∧ yJR_init.cls ≠ "java/lang/invoke/MethodHandle" ∧ yJR_init.cls ≠ "java/lang/invoke/VarHandle" ∧ (parseMethodDescriptor yJR_init.desc).map (fun d => d.parameters.length) = some 5 := by decide +kernel
theorem ndDV_combine : yDV_combine.cls = "DeltaViews" ∧ yDV_combine.cls ≠ "java/lang/invoke/MethodHandle" ∧ yDV_combine.cls ≠ "java/lang/invoke/VarHandle" ∧ (parseMethodDescriptor yDV_combine.desc).map (fun d => d.parameters.length) = some 3 := by decide +kernel
theorem ndCR_init : yCR_init.cls = "DeltaViews$CombineRule" ∧ yCR_init.cls ≠ "java/lang/invoke/MethodHandle" ∧ yCR_init.cls ≠ "java/lang/invoke/VarHandle" ∧ (parseMethodDescriptor yCR_init.desc).map (fun d => d.parameters.length) = some 3 := by decide +kernel
theorem ndDV_distinct : yDV_distinct.cls = "DeltaViews" ∧ yDV_distinct.cls ≠ "java/lang/invoke/MethodHandle" ∧ yDV_distinct.cls ≠ "java/lang/invoke/VarHandle" ∧ (parseMethodDescriptor yDV_distinct.desc).map (fun d => d.parameters.length) = some 1 := by decide +kernel
theorem ndDR_init : yDR_init.cls = "DeltaViews$DistinctRule" ∧ yDR_init.cls ≠ "java/lang/invoke/MethodHandle" ∧ yDR_init.cls ≠ "java/lang/invoke/VarHandle" ∧ (parseMethodDescriptor yDR_init.desc).map (fun d => d.parameters.length) = some 1 := by decide +kernel
theorem ndDV_group : yDV_group.cls = "DeltaViews" ∧ yDV_group.cls ≠ "java/lang/invoke/MethodHandle" ∧ yDV_group.cls ≠ "java/lang/invoke/VarHandle" ∧ (parseMethodDescriptor yDV_group.desc).map (fun d => d.parameters.length) = some 4 := by decide +kernel
theorem ndGR_init : yGR_init.cls = "DeltaViews$GroupRule" ∧ yGR_init.cls ≠ "java/lang/invoke/MethodHandle" ∧ yGR_init.cls ≠ "java/lang/invoke/VarHandle" ∧ (parseMethodDescriptor yGR_init.desc).map (fun d => d.parameters.length) = some 4 := by decide +kernel
theorem ndDV_change : yDV_change.cls = "DeltaViews" ∧ yDV_change.cls ≠ "java/lang/invoke/MethodHandle" ∧ yDV_change.cls ≠ "java/lang/invoke/VarHandle" ∧ (parseMethodDescriptor yDV_change.desc).map (fun d => d.parameters.length) = some 5 := by decide +kernel
theorem ndPD_size : yPD_size.cls = "DeltaViews$Pending" ∧ yPD_size.cls ≠ "java/lang/invoke/MethodHandle" ∧ yPD_size.cls ≠ "java/lang/invoke/VarHandle" ∧ (parseMethodDescriptor yPD_size.desc).map (fun d => d.parameters.length) = some 0 := by decide +kernel
theorem ndPD_append : yPD_append.cls = "DeltaViews$Pending" ∧ yPD_append.cls ≠ "java/lang/invoke/MethodHandle" ∧ yPD_append.cls ≠ "java/lang/invoke/VarHandle" ∧ (parseMethodDescriptor yPD_append.desc).map (fun d => d.parameters.length) = some 5 := by decide +kernel
theorem ndDV_step : yDV_step.cls = "DeltaViews" ∧ yDV_step.cls ≠ "java/lang/invoke/MethodHandle" ∧ yDV_step.cls ≠ "java/lang/invoke/VarHandle" ∧ (parseMethodDescriptor yDV_step.desc).map (fun d => d.parameters.length) = some 0 := by decide +kernel
theorem ndDV_wouldFallBelowZero : yDV_wouldFallBelowZero.cls = "DeltaViews" ∧ yDV_wouldFallBelowZero.cls ≠ "java/lang/invoke/MethodHandle" ∧ yDV_wouldFallBelowZero.cls ≠ "java/lang/invoke/VarHandle" ∧ (parseMethodDescriptor yDV_wouldFallBelowZero.desc).map (fun d => d.parameters.length) = some 0 := by decide +kernel
theorem ndDV_gatherTable : yDV_gatherTable.cls = "DeltaViews" ∧ yDV_gatherTable.cls ≠ "java/lang/invoke/MethodHandle" ∧ yDV_gatherTable.cls ≠ "java/lang/invoke/VarHandle" ∧ (parseMethodDescriptor yDV_gatherTable.desc).map (fun d => d.parameters.length) = some 1 := by decide +kernel
theorem ndPD_addTo : yPD_addTo.cls = "DeltaViews$Pending" ∧ yPD_addTo.cls ≠ "java/lang/invoke/MethodHandle" ∧ yPD_addTo.cls ≠ "java/lang/invoke/VarHandle" ∧ (parseMethodDescriptor yPD_addTo.desc).map (fun d => d.parameters.length) = some 2 := by decide +kernel
theorem ndRW_hasBelowZero : yRW_hasBelowZero.cls = "DeltaViews$Rows" ∧ yRW_hasBelowZero.cls ≠ "java/lang/invoke/MethodHandle" ∧ yRW_hasBelowZero.cls ≠ "java/lang/invoke/VarHandle" ∧ (parseMethodDescriptor yRW_hasBelowZero.desc).map (fun d => d.parameters.length) = some 0 := by decide +kernel
theorem ndDV_fillNextTables : yDV_fillNextTables.cls = "DeltaViews" ∧ yDV_fillNextTables.cls ≠ "java/lang/invoke/MethodHandle" ∧ yDV_fillNextTables.cls ≠ "java/lang/invoke/VarHandle" ∧ (parseMethodDescriptor yDV_fillNextTables.desc).map (fun d => d.parameters.length) = some 0 := by decide +kernel
theorem ndPD_clear : yPD_clear.cls = "DeltaViews$Pending" ∧ yPD_clear.cls ≠ "java/lang/invoke/MethodHandle" ∧ yPD_clear.cls ≠ "java/lang/invoke/VarHandle" ∧ (parseMethodDescriptor yPD_clear.desc).map (fun d => d.parameters.length) = some 0 := by decide +kernel
theorem ndDV_noteChangesSince : yDV_noteChangesSince.cls = "DeltaViews" ∧ yDV_noteChangesSince.cls ≠ "java/lang/invoke/MethodHandle" ∧ yDV_noteChangesSince.cls ≠ "java/lang/invoke/VarHandle" ∧ (parseMethodDescriptor yDV_noteChangesSince.desc).map (fun d => d.parameters.length) = some 1 := by decide +kernel
theorem ndRW_differencesFrom : yRW_differencesFrom.cls = "DeltaViews$Rows" ∧ yRW_differencesFrom.cls ≠ "java/lang/invoke/MethodHandle" ∧ yRW_differencesFrom.cls ≠ "java/lang/invoke/VarHandle" ∧ (parseMethodDescriptor yRW_differencesFrom.desc).map (fun d => d.parameters.length) = some 1 := by decide +kernel
theorem ndRW_weightOf : yRW_weightOf.cls = "DeltaViews$Rows" ∧ yRW_weightOf.cls ≠ "java/lang/invoke/MethodHandle" ∧ yRW_weightOf.cls ≠ "java/lang/invoke/VarHandle" ∧ (parseMethodDescriptor yRW_weightOf.desc).map (fun d => d.parameters.length) = some 3 := by decide +kernel
theorem ndDV_drop : yDV_drop.cls = "DeltaViews" ∧ yDV_drop.cls ≠ "java/lang/invoke/MethodHandle" ∧ yDV_drop.cls ≠ "java/lang/invoke/VarHandle" ∧ (parseMethodDescriptor yDV_drop.desc).map (fun d => d.parameters.length) = some 0 := by decide +kernel
theorem ndDV_weight : yDV_weight.cls = "DeltaViews" ∧ yDV_weight.cls ≠ "java/lang/invoke/MethodHandle" ∧ yDV_weight.cls ≠ "java/lang/invoke/VarHandle" ∧ (parseMethodDescriptor yDV_weight.desc).map (fun d => d.parameters.length) = some 4 := by decide +kernel
theorem ndDV_rowsOf : yDV_rowsOf.cls = "DeltaViews" ∧ yDV_rowsOf.cls ≠ "java/lang/invoke/MethodHandle" ∧ yDV_rowsOf.cls ≠ "java/lang/invoke/VarHandle" ∧ (parseMethodDescriptor yDV_rowsOf.desc).map (fun d => d.parameters.length) = some 1 := by decide +kernel
theorem ndDV_inTable : yDV_inTable.cls = "DeltaViews" ∧ yDV_inTable.cls ≠ "java/lang/invoke/MethodHandle" ∧ yDV_inTable.cls ≠ "java/lang/invoke/VarHandle" ∧ (parseMethodDescriptor yDV_inTable.desc).map (fun d => d.parameters.length) = some 4 := by decide +kernel
theorem ndDV_rows : yDV_rows.cls = "DeltaViews" ∧ yDV_rows.cls ≠ "java/lang/invoke/MethodHandle" ∧ yDV_rows.cls ≠ "java/lang/invoke/VarHandle" ∧ (parseMethodDescriptor yDV_rows.desc).map (fun d => d.parameters.length) = some 1 := by decide +kernel
theorem ndDV_cell : yDV_cell.cls = "DeltaViews" ∧ yDV_cell.cls ≠ "java/lang/invoke/MethodHandle" ∧ yDV_cell.cls ≠ "java/lang/invoke/VarHandle" ∧ (parseMethodDescriptor yDV_cell.desc).map (fun d => d.parameters.length) = some 3 := by decide +kernel
theorem ndDV_total : yDV_total.cls = "DeltaViews" ∧ yDV_total.cls ≠ "java/lang/invoke/MethodHandle" ∧ yDV_total.cls ≠ "java/lang/invoke/VarHandle" ∧ (parseMethodDescriptor yDV_total.desc).map (fun d => d.parameters.length) = some 1 := by decide +kernel
theorem ndRW_sumOfWeights : yRW_sumOfWeights.cls = "DeltaViews$Rows" ∧ yRW_sumOfWeights.cls ≠ "java/lang/invoke/MethodHandle" ∧ yRW_sumOfWeights.cls ≠ "java/lang/invoke/VarHandle" ∧ (parseMethodDescriptor yRW_sumOfWeights.desc).map (fun d => d.parameters.length) = some 0 := by decide +kernel
theorem ndDV_changed : yDV_changed.cls = "DeltaViews" ∧ yDV_changed.cls ≠ "java/lang/invoke/MethodHandle" ∧ yDV_changed.cls ≠ "java/lang/invoke/VarHandle" ∧ (parseMethodDescriptor yDV_changed.desc).map (fun d => d.parameters.length) = some 1 := by decide +kernel
theorem ndDV_mean : yDV_mean.cls = "DeltaViews" ∧ yDV_mean.cls ≠ "java/lang/invoke/MethodHandle" ∧ yDV_mean.cls ≠ "java/lang/invoke/VarHandle" ∧ (parseMethodDescriptor yDV_mean.desc).map (fun d => d.parameters.length) = some 2 := by decide +kernel
theorem ndRW_weightedSum : yRW_weightedSum.cls = "DeltaViews$Rows" ∧ yRW_weightedSum.cls ≠ "java/lang/invoke/MethodHandle" ∧ yRW_weightedSum.cls ≠ "java/lang/invoke/VarHandle" ∧ (parseMethodDescriptor yRW_weightedSum.desc).map (fun d => d.parameters.length) = some 1 := by decide +kernel
theorem ndDV_count : yDV_count.cls = "DeltaViews" ∧ yDV_count.cls ≠ "java/lang/invoke/MethodHandle" ∧ yDV_count.cls ≠ "java/lang/invoke/VarHandle" ∧ (parseMethodDescriptor yDV_count.desc).map (fun d => d.parameters.length) = some 1 := by decide +kernel
theorem ndMD_init : yMD_init.cls = "DeltaViewsModel" ∧ yMD_init.cls ≠ "java/lang/invoke/MethodHandle" ∧ yMD_init.cls ≠ "java/lang/invoke/VarHandle" ∧ (parseMethodDescriptor yMD_init.desc).map (fun d => d.parameters.length) = some 0 := by decide +kernel
theorem ndMD_table : yMD_table.cls = "DeltaViewsModel" ∧ yMD_table.cls ≠ "java/lang/invoke/MethodHandle" ∧ yMD_table.cls ≠ "java/lang/invoke/VarHandle" ∧ (parseMethodDescriptor yMD_table.desc).map (fun d => d.parameters.length) = some 1 := by decide +kernel
theorem ndMD_out : yMD_out.cls = "DeltaViewsModel" ∧ yMD_out.cls ≠ "java/lang/invoke/MethodHandle" ∧ yMD_out.cls ≠ "java/lang/invoke/VarHandle" ∧ (parseMethodDescriptor yMD_out.desc).map (fun d => d.parameters.length) = some 2 := by decide +kernel
theorem ndMD_make : yMD_make.cls = "DeltaViewsModel" ∧ yMD_make.cls ≠ "java/lang/invoke/MethodHandle" ∧ yMD_make.cls ≠ "java/lang/invoke/VarHandle" ∧ (parseMethodDescriptor yMD_make.desc).map (fun d => d.parameters.length) = some 6 := by decide +kernel
theorem ndMD_evaluate : yMD_evaluate.cls = "DeltaViewsModel" ∧ yMD_evaluate.cls ≠ "java/lang/invoke/MethodHandle" ∧ yMD_evaluate.cls ≠ "java/lang/invoke/VarHandle" ∧ (parseMethodDescriptor yMD_evaluate.desc).map (fun d => d.parameters.length) = some 2 := by decide +kernel
theorem ndMD_joinOne : yMD_joinOne.cls = "DeltaViewsModel" ∧ yMD_joinOne.cls ≠ "java/lang/invoke/MethodHandle" ∧ yMD_joinOne.cls ≠ "java/lang/invoke/VarHandle" ∧ (parseMethodDescriptor yMD_joinOne.desc).map (fun d => d.parameters.length) = some 3 := by decide +kernel
theorem ndMD_column : yMD_column.cls = "DeltaViewsModel" ∧ yMD_column.cls ≠ "java/lang/invoke/MethodHandle" ∧ yMD_column.cls ≠ "java/lang/invoke/VarHandle" ∧ (parseMethodDescriptor yMD_column.desc).map (fun d => d.parameters.length) = some 2 := by decide +kernel
theorem ndMD_picked : yMD_picked.cls = "DeltaViewsModel" ∧ yMD_picked.cls ≠ "java/lang/invoke/MethodHandle" ∧ yMD_picked.cls ≠ "java/lang/invoke/VarHandle" ∧ (parseMethodDescriptor yMD_picked.desc).map (fun d => d.parameters.length) = some 3 := by decide +kernel
theorem ndMD_emit : yMD_emit.cls = "DeltaViewsModel" ∧ yMD_emit.cls ≠ "java/lang/invoke/MethodHandle" ∧ yMD_emit.cls ≠ "java/lang/invoke/VarHandle" ∧ (parseMethodDescriptor yMD_emit.desc).map (fun d => d.parameters.length) = some 4 := by decide +kernel
theorem ndMD_unary : yMD_unary.cls = "DeltaViewsModel" ∧ yMD_unary.cls ≠ "java/lang/invoke/MethodHandle" ∧ yMD_unary.cls ≠ "java/lang/invoke/VarHandle" ∧ (parseMethodDescriptor yMD_unary.desc).map (fun d => d.parameters.length) = some 3 := by decide +kernel
theorem ndMD_passes : yMD_passes.cls = "DeltaViewsModel" ∧ yMD_passes.cls ≠ "java/lang/invoke/MethodHandle" ∧ yMD_passes.cls ≠ "java/lang/invoke/VarHandle" ∧ (parseMethodDescriptor yMD_passes.desc).map (fun d => d.parameters.length) = some 3 := by decide +kernel
theorem ndMD_mapped : yMD_mapped.cls = "DeltaViewsModel" ∧ yMD_mapped.cls ≠ "java/lang/invoke/MethodHandle" ∧ yMD_mapped.cls ≠ "java/lang/invoke/VarHandle" ∧ (parseMethodDescriptor yMD_mapped.desc).map (fun d => d.parameters.length) = some 2 := by decide +kernel
theorem ndMD_grouped : yMD_grouped.cls = "DeltaViewsModel" ∧ yMD_grouped.cls ≠ "java/lang/invoke/MethodHandle" ∧ yMD_grouped.cls ≠ "java/lang/invoke/VarHandle" ∧ (parseMethodDescriptor yMD_grouped.desc).map (fun d => d.parameters.length) = some 3 := by decide +kernel
theorem ndMD_settle : yMD_settle.cls = "DeltaViewsModel" ∧ yMD_settle.cls ≠ "java/lang/invoke/MethodHandle" ∧ yMD_settle.cls ≠ "java/lang/invoke/VarHandle" ∧ (parseMethodDescriptor yMD_settle.desc).map (fun d => d.parameters.length) = some 2 := by decide +kernel
theorem ndMD_before : yMD_before.cls = "DeltaViewsModel" ∧ yMD_before.cls ≠ "java/lang/invoke/MethodHandle" ∧ yMD_before.cls ≠ "java/lang/invoke/VarHandle" ∧ (parseMethodDescriptor yMD_before.desc).map (fun d => d.parameters.length) = some 2 := by decide +kernel
theorem ndMD_filter : yMD_filter.cls = "DeltaViewsModel" ∧ yMD_filter.cls ≠ "java/lang/invoke/MethodHandle" ∧ yMD_filter.cls ≠ "java/lang/invoke/VarHandle" ∧ (parseMethodDescriptor yMD_filter.desc).map (fun d => d.parameters.length) = some 4 := by decide +kernel
theorem ndMD_map : yMD_map.cls = "DeltaViewsModel" ∧ yMD_map.cls ≠ "java/lang/invoke/MethodHandle" ∧ yMD_map.cls ≠ "java/lang/invoke/VarHandle" ∧ (parseMethodDescriptor yMD_map.desc).map (fun d => d.parameters.length) = some 4 := by decide +kernel
theorem ndMD_join : yMD_join.cls = "DeltaViewsModel" ∧ yMD_join.cls ≠ "java/lang/invoke/MethodHandle" ∧ yMD_join.cls ≠ "java/lang/invoke/VarHandle" ∧ (parseMethodDescriptor yMD_join.desc).map (fun d => d.parameters.length) = some 5 := by decide +kernel
theorem ndMD_combine : yMD_combine.cls = "DeltaViewsModel" ∧ yMD_combine.cls ≠ "java/lang/invoke/MethodHandle" ∧ yMD_combine.cls ≠ "java/lang/invoke/VarHandle" ∧ (parseMethodDescriptor yMD_combine.desc).map (fun d => d.parameters.length) = some 3 := by decide +kernel
theorem ndMD_distinct : yMD_distinct.cls = "DeltaViewsModel" ∧ yMD_distinct.cls ≠ "java/lang/invoke/MethodHandle" ∧ yMD_distinct.cls ≠ "java/lang/invoke/VarHandle" ∧ (parseMethodDescriptor yMD_distinct.desc).map (fun d => d.parameters.length) = some 1 := by decide +kernel
theorem ndMD_group : yMD_group.cls = "DeltaViewsModel" ∧ yMD_group.cls ≠ "java/lang/invoke/MethodHandle" ∧ yMD_group.cls ≠ "java/lang/invoke/VarHandle" ∧ (parseMethodDescriptor yMD_group.desc).map (fun d => d.parameters.length) = some 4 := by decide +kernel
theorem ndMD_change : yMD_change.cls = "DeltaViewsModel" ∧ yMD_change.cls ≠ "java/lang/invoke/MethodHandle" ∧ yMD_change.cls ≠ "java/lang/invoke/VarHandle" ∧ (parseMethodDescriptor yMD_change.desc).map (fun d => d.parameters.length) = some 5 := by decide +kernel
theorem ndMD_step : yMD_step.cls = "DeltaViewsModel" ∧ yMD_step.cls ≠ "java/lang/invoke/MethodHandle" ∧ yMD_step.cls ≠ "java/lang/invoke/VarHandle" ∧ (parseMethodDescriptor yMD_step.desc).map (fun d => d.parameters.length) = some 0 := by decide +kernel
theorem ndMD_workTable : yMD_workTable.cls = "DeltaViewsModel" ∧ yMD_workTable.cls ≠ "java/lang/invoke/MethodHandle" ∧ yMD_workTable.cls ≠ "java/lang/invoke/VarHandle" ∧ (parseMethodDescriptor yMD_workTable.desc).map (fun d => d.parameters.length) = some 1 := by decide +kernel
theorem ndMD_differing : yMD_differing.cls = "DeltaViewsModel" ∧ yMD_differing.cls ≠ "java/lang/invoke/MethodHandle" ∧ yMD_differing.cls ≠ "java/lang/invoke/VarHandle" ∧ (parseMethodDescriptor yMD_differing.desc).map (fun d => d.parameters.length) = some 1 := by decide +kernel
theorem ndMD_weightIn : yMD_weightIn.cls = "DeltaViewsModel" ∧ yMD_weightIn.cls ≠ "java/lang/invoke/MethodHandle" ∧ yMD_weightIn.cls ≠ "java/lang/invoke/VarHandle" ∧ (parseMethodDescriptor yMD_weightIn.desc).map (fun d => d.parameters.length) = some 4 := by decide +kernel
theorem ndMD_adopt : yMD_adopt.cls = "DeltaViewsModel" ∧ yMD_adopt.cls ≠ "java/lang/invoke/MethodHandle" ∧ yMD_adopt.cls ≠ "java/lang/invoke/VarHandle" ∧ (parseMethodDescriptor yMD_adopt.desc).map (fun d => d.parameters.length) = some 1 := by decide +kernel
theorem ndMD_drop : yMD_drop.cls = "DeltaViewsModel" ∧ yMD_drop.cls ≠ "java/lang/invoke/MethodHandle" ∧ yMD_drop.cls ≠ "java/lang/invoke/VarHandle" ∧ (parseMethodDescriptor yMD_drop.desc).map (fun d => d.parameters.length) = some 0 := by decide +kernel
theorem ndMD_weight : yMD_weight.cls = "DeltaViewsModel" ∧ yMD_weight.cls ≠ "java/lang/invoke/MethodHandle" ∧ yMD_weight.cls ≠ "java/lang/invoke/VarHandle" ∧ (parseMethodDescriptor yMD_weight.desc).map (fun d => d.parameters.length) = some 4 := by decide +kernel
theorem ndMD_inTable : yMD_inTable.cls = "DeltaViewsModel" ∧ yMD_inTable.cls ≠ "java/lang/invoke/MethodHandle" ∧ yMD_inTable.cls ≠ "java/lang/invoke/VarHandle" ∧ (parseMethodDescriptor yMD_inTable.desc).map (fun d => d.parameters.length) = some 4 := by decide +kernel
theorem ndMD_rows : yMD_rows.cls = "DeltaViewsModel" ∧ yMD_rows.cls ≠ "java/lang/invoke/MethodHandle" ∧ yMD_rows.cls ≠ "java/lang/invoke/VarHandle" ∧ (parseMethodDescriptor yMD_rows.desc).map (fun d => d.parameters.length) = some 1 := by decide +kernel
theorem ndMD_cell : yMD_cell.cls = "DeltaViewsModel" ∧ yMD_cell.cls ≠ "java/lang/invoke/MethodHandle" ∧ yMD_cell.cls ≠ "java/lang/invoke/VarHandle" ∧ (parseMethodDescriptor yMD_cell.desc).map (fun d => d.parameters.length) = some 3 := by decide +kernel
theorem ndMD_total : yMD_total.cls = "DeltaViewsModel" ∧ yMD_total.cls ≠ "java/lang/invoke/MethodHandle" ∧ yMD_total.cls ≠ "java/lang/invoke/VarHandle" ∧ (parseMethodDescriptor yMD_total.desc).map (fun d => d.parameters.length) = some 1 := by decide +kernel
theorem ndMD_changed : yMD_changed.cls = "DeltaViewsModel" ∧ yMD_changed.cls ≠ "java/lang/invoke/MethodHandle" ∧ yMD_changed.cls ≠ "java/lang/invoke/VarHandle" ∧ (parseMethodDescriptor yMD_changed.desc).map (fun d => d.parameters.length) = some 1 := by decide +kernel
theorem ndMD_mean : yMD_mean.cls = "DeltaViewsModel" ∧ yMD_mean.cls ≠ "java/lang/invoke/MethodHandle" ∧ yMD_mean.cls ≠ "java/lang/invoke/VarHandle" ∧ (parseMethodDescriptor yMD_mean.desc).map (fun d => d.parameters.length) = some 2 := by decide +kernel
theorem ndMD_count : yMD_count.cls = "DeltaViewsModel" ∧ yMD_count.cls ≠ "java/lang/invoke/MethodHandle" ∧ yMD_count.cls ≠ "java/lang/invoke/VarHandle" ∧ (parseMethodDescriptor yMD_count.desc).map (fun d => d.parameters.length) = some 1 := by decide +kernel
def yRU_fill : MethodName := ⟨"DeltaViews$Rule", "fill", "([LDeltaViews$Rows;LDeltaViews$Rows;)V"⟩
def nestL : List (Nat × MethodName) := [(31, yPD_init), (56, yTR_init), (77, yFR_init), (82, yMR_init), (85, yJR_init), (90, yCR_init), (95, yDR_init), (98, yGR_init)]
def faceL : List (String × MethodName) := [("DeltaViews$TableRule", yTR_fill), ("DeltaViews$FilterRule", yFR_fill), ("DeltaViews$MapRule", yMR_fill), ("DeltaViews$JoinRule", yJR_fill), ("DeltaViews$CombineRule", yCR_fill), ("DeltaViews$DistinctRule", yDR_fill), ("DeltaViews$GroupRule", yGR_fill)]
end
section
/-! MINI-KIT: a judgement V over an abstract heap (a function from addresses to cells): one row an instruction, no world to cut. -/
abbrev AH : Type := Nat → Option va_E
abbrev Om : Type := va_G × (Nat → ClassId) × Nat
def xk_tys (o : Om) : List (ClassId × FieldType) := [(o.2.1 0, .int), (o.2.1 1, .long), (o.2.1 2, .object "DeltaViews$Rows"), (o.2.1 3, .object "DeltaViews$Rule")]
def Hp (o : Om) (h : AH) (H : Heap) : Prop := ∃ ws : va_W, va_P o.1 vwCl ws H ∧ va_D (fun q : Nat => o.2.2 ≤ q) ws ∧ ∀ (a : Nat) (x : va_E), h a = some x → ∃ k : Nat, ws[k]? = some (a, x)
def hu (h : AH) (a : Nat) (x : va_E) : AH := fun q => if q = a then some x else h q
theorem hu_eq (h : AH) (a : Nat) (x : va_E) : hu h a x a = some x := by simp [hu]
theorem hu_ne (h : AH) {a q : Nat} (x : va_E) (hq : q ≠ a) : hu h a x q = h q := by simp [hu, hq]
theorem hu_hu (h : AH) (a : Nat) (x y : va_E) : hu (hu h a x) a y = hu h a y := by
  funext q; simp only [hu]; split <;> rfl
theorem hu_comm (h : AH) {a b : Nat} (x y : va_E) (hq : a ≠ b) : hu (hu h a x) b y = hu (hu h b y) a x := by
  funext q; simp only [hu]
  by_cases h1 : q = a
  · subst h1; simp [hq]
  · by_cases h2 : q = b
    · subst h2; simp [Ne.symm hq]
    · simp [h1, h2]
theorem hu_self {h : AH} {a : Nat} {x : va_E} (e : h a = some x) : hu h a x = h := by
  funext q; simp only [hu]; split
  · next hq => rw [hq, e]
  · rfl
theorem Hp.lt {o : Om} {h : AH} {H : Heap} (hp : Hp o h H) {a : Nat} {x : va_E} (e : h a = some x) : a < H.size := by
  obtain ⟨ws, hP, -, hh⟩ := hp
  obtain ⟨k, hk⟩ := hh a x e
  exact (hP k _ hk).lt
theorem Hp.set {o : Om} {h : AH} {ws : va_W} {k a : Nat} {x0 x : va_E} (hD : va_D (fun q : Nat => o.2.2 ≤ q) ws) (hk : ws[k]? = some (a, x0)) (hh : ∀ (b : Nat) (y : va_E), h b = some y → ∃ k : Nat, ws[k]? = some (b, y)) : ∀ (b : Nat) (y : va_E), hu h a x b = some y → ∃ j : Nat, (ws.set k (a, x))[j]? = some (b, y) := by
  intro b y hb
  have hl := (List.getElem?_eq_some_iff.mp hk).1
  by_cases hq : b = a
  · subst hq
    rw [hu_eq] at hb
    cases hb
    exact ⟨k, List.getElem?_set_self hl⟩
  · rw [hu_ne h x hq] at hb
    obtain ⟨j, hj⟩ := hh b y hb
    refine ⟨j, ?_⟩
    rw [List.getElem?_set_ne (fun z => hq ?_)]
    · exact hj
    · subst z
      rw [hk] at hj
      exact (congrArg Prod.fst (Option.some.inj hj)).symm
theorem Hp.push {h : AH} {ws : va_W} {a : Nat} {x : va_E} (hh : ∀ (b : Nat) (y : va_E), h b = some y → ∃ k : Nat, ws[k]? = some (b, y)) : ∀ (b : Nat) (y : va_E), hu h a x b = some y → ∃ j : Nat, (ws ++ [(a, x)])[j]? = some (b, y) := by
  intro b y hb
  by_cases hq : b = a
  · subst hq
    rw [hu_eq] at hb
    cases hb
    exact ⟨ws.length, by simp⟩
  · rw [hu_ne h x hq] at hb
    obtain ⟨j, hj⟩ := hh b y hb
    exact ⟨j, by rw [List.getElem?_append_left (List.getElem?_eq_some_iff.mp hj).1]; exact hj⟩
theorem Hp.fresh {o : Om} {h : AH} {ws : va_W} {a : Nat} {x : va_E} (hD : va_D (fun q : Nat => o.2.2 ≤ q) (ws ++ [(a, x)])) (hh : ∀ (b : Nat) (y : va_E), h b = some y → ∃ k : Nat, ws[k]? = some (b, y)) : h a = none := by
  cases hc : h a with
  | none => rfl
  | some y =>
    exfalso
    obtain ⟨k, hk⟩ := hh a y hc
    have hl := (List.getElem?_eq_some_iff.mp hk).1
    have h1 : (ws ++ [(a, x)])[k]? = some (a, y) := by rw [List.getElem?_append_left hl]; exact hk
    have h2 : (ws ++ [(a, x)])[ws.length]? = some (a, x) := by simp
    have := hD.1 k ws.length _ _ h1 h2 rfl
    omega
/-- words that don't keep as they stand: arrays of references, private constructors of nest mates, the interface's calls -/
def XN (U : State) : Prop := va_AO "DeltaViews$Rows" U ∧ va_AO "DeltaViews$Rule" U ∧ (∀ q ∈ nestL, va_Nw (.methodLinkNest "DeltaViews" q.1 q.2 "DeltaViews") U) ∧ (∀ q ∈ faceL, va_Fw q.1 yRU_fill q.2 U)
theorem XN.moved {s U : State} (hW : s.WarmedH U.vm) (h : XN s) : XN U := ⟨va_AO.moved hW.alike h.1, va_AO.moved hW.alike h.2.1, fun q hq => va_Nw.warmM hW (h.2.2.1 q hq), fun q hq => va_Fw.moved (by decide +kernel) hW.alike (h.2.2.2 q hq)⟩
abbrev Kx := Program × Launch × Env × Room × State × MethodId × Array Value × List Frame × Method × Code × Nat × Om
abbrev Kp (K : Kx) : Program := K.1
abbrev Kl (K : Kx) : Launch := K.2.1
abbrev Ke (K : Kx) : Env := K.2.2.1
abbrev KR (K : Kx) : Room := K.2.2.2.1
abbrev Ks (K : Kx) : State := K.2.2.2.2.1
abbrev Km (K : Kx) : MethodId := K.2.2.2.2.2.1
abbrev Ka (K : Kx) : Array Value := K.2.2.2.2.2.2.1
abbrev Kb (K : Kx) : List Frame := K.2.2.2.2.2.2.2.1
abbrev Kme (K : Kx) : Method := K.2.2.2.2.2.2.2.2.1
abbrev Kc (K : Kx) : Code := K.2.2.2.2.2.2.2.2.2.1
abbrev Kn (K : Kx) : Nat := K.2.2.2.2.2.2.2.2.2.2.1
abbrev Ko (K : Kx) : Om := K.2.2.2.2.2.2.2.2.2.2.2
abbrev fr (o : Om) : Nat → Prop := fun q => o.2.2 ≤ q
def V (K : Kx) (h : AH) (cells slots : Nat) (Q : State → Prop) (pc : Nat) (ls : List (Nat × Value)) (st : List Value) : Prop :=
  ∀ (H : Heap) (locs : List Loc) (la : Array Slot), Hp (Ko K) h H → va_S (fr (Ko K)) (Ks K).heap H locs → lv_has la (Kn K) ls →
    W (Kp K) (Kl K) (Ke K) (KR K) (Ks K) (Km K) (Ka K) (Kb K) (Kme K) (Kc K) H locs cells slots Q (F0 (Km K) pc la st)
def Cx (K : Kx) (cc : ByteArray) (nL : Nat) (own : String) (rm : Room) (ret : Option FieldType) (nm : String) : Prop :=
  CallFix (Kp K) (Km K) (Kc K) cc (Kn K) (Ks K) (Ka K) tblG own ∧ va_K (Ko K).1 vwCl (xk_tys (Ko K)) (Ks K) ∧ (Ko K).2.2 ≤ (Ks K).heap.size ∧ KR K = rm ∧ (Kme K).sig.returnType = ret ∧ (Kme K).locks = false ∧ (Kme K).name = nm ∧ Kn K = nL ∧ XN (Ks K)
/-- a local by its number -/
def lk : List (Nat × Value) → Nat → Option Value
  | [], _ => none
  | q :: r, i => match Nat.beq q.1 i with
    | true => some q.2
    | false => lk r i
theorem lk_mem : ∀ {ls : List (Nat × Value)} {i : Nat} {v : Value}, lk ls i = some v → (i, v) ∈ ls
  | [], i, v, h => by simp [lk] at h
  | q :: r, i, v, h => by
    unfold lk at h
    cases hq : Nat.beq q.1 i with
    | true =>
      rw [hq] at h
      have e : q.1 = i := Nat.eq_of_beq_eq_true hq
      have e2 : q.2 = v := Option.some.inj h
      rw [← e, ← e2]
      exact List.mem_cons_self
    | false =>
      rw [hq] at h
      exact List.mem_cons_of_mem _ (lk_mem h)
abbrev s1 (i : Nat) (v : Value) (ls : List (Nat × Value)) : List (Nat × Value) := (i, v) :: ls.filter (fun q => !(q.1 == i) && !(q.1 + 1 == i && q.2.category == 2))
abbrev s2 (i : Nat) (v : Value) (ls : List (Nat × Value)) : List (Nat × Value) := (i, v) :: ls.filter (fun q => !(q.1 == i) && (!(q.1 == i + 1) && !(q.1 + 1 == i && q.2.category == 2)))
def PB (o : Om) (h : AH) (U : State) : Prop := Hp o h U.heap ∧ va_K o.1 vwCl (xk_tys o) U ∧ o.2.2 ≤ U.heap.size ∧ XN U
def HB (o : Om) (h : AH) (t : State) : Prop := Hp o h t.heap
def HBr (o : Om) (u : AH × Nat) (a : Nat) (t : State) : Prop := u.2 = a ∧ Hp o u.1 t.heap
abbrev EndQ (K : Kx) (Qc : Array Value → State → Outcome → State → Prop) (mc ms : Nat) : State → Prop := MQ (Kb K) Qc (Ka K) (Ks K) mc ms (fr (Ko K))
abbrev QI (o : Om) (post : Int32 → AH → Prop) : Array Value → State → Outcome → State → Prop := va_Qi post (HB o) (fr o)
abbrev QL (o : Om) (post : Int64 → AH → Prop) : Array Value → State → Outcome → State → Prop := va_Ql post (HB o) (fr o)
abbrev QD (o : Om) (post : UInt64 → AH → Prop) : Array Value → State → Outcome → State → Prop := va_Qd post (HB o) (fr o)
abbrev QV (o : Om) (post : AH → Prop) : Array Value → State → Outcome → State → Prop := va_Qv post (HB o) (fr o)
abbrev QR (o : Om) (post : AH × Nat → Prop) : Array Value → State → Outcome → State → Prop := va_Qr post (HBr o) (fr o)
/-- a method's contract: from args avs and abstract heap h -/
abbrev Mt (l : Launch) (o : Om) (y : MethodName) (cc : ByteArray) (nL : Nat) (ret : Option FieldType) (rm : Room) (avs : List Value) (h : AH) (Qc : Array Value → State → Outcome → State → Prop) (mc ms : Nat) : Prop := Met l y (Cond.code y cc nL ret :: tblG) rm (va_Pc avs (PB o h)) Qc mc ms (fr o)
theorem Met.ofV {l : Launch} {o : Om} {y : MethodName} {rm : Room} {avs : List Value} {h : AH} {Qc : Array Value → State → Outcome → State → Prop} {mc ms : Nat} {cc : ByteArray} {nL : Nat} {ret : Option FieldType} (hy : plainName y.cls = true) (hsl : (lg_sl avs).length ≤ nL)
    (body : ∀ K : Kx, Kl K = l → Ko K = o → Cx K cc nL y.cls rm ret y.name → V K h 0 0 (EndQ K Qc mc ms) 0 (lv_args 0 avs) []) : Mt l o y cc nL ret rm avs h Qc mc ms := by
  refine Met.ofW (cc := cc) (maxL := nL) (ret := ret) hy rfl ?_
  intro p e s m args below meth c s₁ B hml hv
  obtain ⟨rfl, hp, hK, hb0, hxn⟩ := hv
  have hts := atoms_spec (ws := Cond.code y cc nL ret :: tblG) B.pre
  have hown : s.vm.findClass y.cls = some m.cls := findClass_of_methodNamed B.named
  have hin : meth.name = y.name := (name_of_methodNamed B.named B.method).1
  have hl := lv_entry avs (n := nL) hsl
  rw [lg_entry_eq]
  exact body (p, l, e, rm, s, m, avs.toArray, below, meth, c, nL, o) rfl rfl ⟨⟨B.exec, B.bytes, hml, hown, fun w hw => hts w (List.mem_cons_of_mem _ hw)⟩, hK, hb0, rfl, B.returns, B.notSynchronized, hin, rfl, hxn⟩ s.heap [] _ hp va_S.rf hl
theorem good_code {w0 : Cond} (h : w0 ∈ tblG) : ∀ w ∈ w0 :: tblG, w ∈ tblG := List.forall_mem_cons.mpr ⟨h, fun _ h => h⟩
theorem good_of {a : List Cond} (ha : ∀ w ∈ a, w ∈ tblG) : GoodIn tblG a := fun w h => ⟨ha w h, tgood w (ha w h)⟩
theorem mem4 {P : Cond → Prop} {a b c d : Cond} {l : List Cond} (ha : P a) (hb : P b) (hc : P c) (hd : P d) (hl : ∀ w ∈ l, P w) : ∀ w ∈ [a, b, c, d] ++ l, P w := List.forall_mem_cons.mpr ⟨ha, List.forall_mem_cons.mpr ⟨hb, List.forall_mem_cons.mpr ⟨hc, List.forall_mem_cons.mpr ⟨hd, hl⟩⟩⟩⟩
theorem mem3 {P : Cond → Prop} {a b c : Cond} {l : List Cond} (ha : P a) (hb : P b) (hc : P c) (hl : ∀ w ∈ l, P w) : ∀ w ∈ [a, b, c] ++ l, P w := List.forall_mem_cons.mpr ⟨ha, List.forall_mem_cons.mpr ⟨hb, List.forall_mem_cons.mpr ⟨hc, hl⟩⟩⟩
section XK
variable {K : Kx} {h : AH} {cells slots : Nat} {Q : State → Prop} {pc n : Nat} {ls : List (Nat × Value)} {st : List Value} {cc : ByteArray} {nL : Nat} {own nm : String} {rm : Room} {ret : Option FieldType}
theorem V.less {ls' : List (Nat × Value)} (hs : ∀ q ∈ ls', q ∈ ls) (k : V K h cells slots Q pc ls' st) : V K h cells slots Q pc ls st := fun H locs la hp hS hl => k H locs la hp hS ⟨hl.1, hl.2.1, fun q hq => hl.2.2 q (hs q hq)⟩
/-- fewer locals, by their numbers -/
theorem V.byk {ls' : List (Nat × Value)} (hs : ls'.map (fun q => lk ls q.1) = ls'.map (fun q => some q.2)) (k : V K h cells slots Q pc ls' st) : V K h cells slots Q pc ls st := by
  refine V.less (fun q hq => ?_) k
  have : lk ls q.1 = some q.2 := by
    have h2 := List.map_inj_left.mp hs q hq
    exact h2
  exact lk_mem this
theorem V.widen {k n : Nat} (h1 : cells ≤ k) (h2 : slots ≤ n) (kk : V K h k n Q pc ls st) : V K h cells slots Q pc ls st := fun H locs la hp hS hl => W.widen h1 h2 (kk H locs la hp hS hl)
theorem V.nami {x : Int32} (k : ∀ y : Int32, y = x → V K h cells slots Q pc ls (.int y :: st)) : V K h cells slots Q pc ls (.int x :: st) := k x rfl
theorem V.naml {x : Int64} (k : ∀ y : Int64, y = x → V K h cells slots Q pc ls (.long y :: st)) : V K h cells slots Q pc ls (.long x :: st) := k x rfl
theorem V.eqi {x y : Int32} (e : x = y) (k : V K h cells slots Q pc ls (.int y :: st)) : V K h cells slots Q pc ls (.int x :: st) := e ▸ k
theorem V.eql {x y : Int64} (e : x = y) (k : V K h cells slots Q pc ls (.long y :: st)) : V K h cells slots Q pc ls (.long x :: st) := e ▸ k
theorem V.eqh {h' : AH} (e : h = h') (k : V K h' cells slots Q pc ls st) : V K h cells slots Q pc ls st := e ▸ k
theorem V.pos {P : Prop} (hP : ∀ H : Heap, Hp (Ko K) h H → P) (k : P → V K h cells slots Q pc ls st) : V K h cells slots Q pc ls st := fun H locs la hp hS hl => k (hP H hp) H locs la hp hS hl
theorem r_iconst {i : Int} {v : Int32} (C : Cx K cc nL own rm ret nm) (d : decode cc pc = .ok (.iconst i, 1)) (hn : pc + 1 = n) (hv : Int32.ofInt i = v) (k : V K h cells slots Q n ls (.int v :: st)) : V K h cells slots Q pc ls (st) := by
  subst hn; exact fun H locs la hp hS hl => lv_iconst C.1.1 C.1.2.1 d hv (k H locs la hp hS hl)
theorem r_bipush {i : Int} {v : Int32} (C : Cx K cc nL own rm ret nm) (d : decode cc pc = .ok (.bipush i, 2)) (hn : pc + 2 = n) (hv : (Int8.ofInt i).toInt32 = v) (k : V K h cells slots Q n ls (.int v :: st)) : V K h cells slots Q pc ls (st) := by
  subst hn; exact fun H locs la hp hS hl => lv_bipush C.1.1 C.1.2.1 d hv (k H locs la hp hS hl)
theorem r_sipush {i : Int} {v : Int32} (C : Cx K cc nL own rm ret nm) (d : decode cc pc = .ok (.sipush i, 3)) (hn : pc + 3 = n) (hv : (Int16.ofInt i).toInt32 = v) (k : V K h cells slots Q n ls (.int v :: st)) : V K h cells slots Q pc ls (st) := by
  subst hn; exact fun H locs la hp hS hl => lv_sipush C.1.1 C.1.2.1 d hv (k H locs la hp hS hl)
theorem r_lconst {i : Fin 2} {v : Int64} (C : Cx K cc nL own rm ret nm) (d : decode cc pc = .ok (.lconst i, 1)) (hn : pc + 1 = n) (hv : Int64.ofNat (i : Nat) = v) (k : V K h cells slots Q n ls (.long v :: st)) : V K h cells slots Q pc ls (st) := by
  subst hn; exact fun H locs la hp hS hl => lv_lconst C.1.1 C.1.2.1 d hv (k H locs la hp hS hl)
theorem r_dconst0  (C : Cx K cc nL own rm ret nm) (d : decode cc pc = .ok (.dconst 0, 1)) (hn : pc + 1 = n)  (k : V K h cells slots Q n ls (.double FP.dconst0 :: st)) : V K h cells slots Q pc ls (st) := by
  subst hn; exact fun H locs la hp hS hl => lv_dconst0 C.1.1 C.1.2.1 d  (k H locs la hp hS hl)
theorem r_iload_n {k : Fin 4} {x : Int32} (C : Cx K cc nL own rm ret nm) (d : decode cc pc = .ok (.iload_n k, 1)) (hn : pc + 1 = n) (hi : lk ls k.val = some (.int x)) (kk : V K h cells slots Q n ls (.int x :: st)) : V K h cells slots Q pc ls st := by
  subst hn; exact fun H locs la hp hS hl => lv_iload_n C.1.1 C.1.2.1 d rfl (hl.2.2 _ (lk_mem hi)) (kk H locs la hp hS hl)
theorem r_iload {i : Nat} {x : Int32} (C : Cx K cc nL own rm ret nm) (d : decode cc pc = .ok (.iload i, 2)) (hn : pc + 2 = n) (hi : lk ls i = some (.int x)) (kk : V K h cells slots Q n ls (.int x :: st)) : V K h cells slots Q pc ls st := by
  subst hn; exact fun H locs la hp hS hl => lv_iload C.1.1 C.1.2.1 d (hl.2.2 _ (lk_mem hi)) (kk H locs la hp hS hl)
theorem r_istore_n {k : Fin 4} {x : Int32} (C : Cx K cc nL own rm ret nm) (d : decode cc pc = .ok (.istore_n k, 1)) (hn : pc + 1 = n) (hi : k.val < nL) (kk : V K h cells slots Q n (s1 k.val (.int x) ls) st) : V K h cells slots Q pc ls (.int x :: st) := by
  subst hn; exact fun H locs la hp hS hl => lv_istore_n C.1.1 C.1.2.1 d rfl hl (by rw [C.2.2.2.2.2.2.2.1]; exact hi) rfl (fun la' hl' => kk H locs la' hp hS hl')
theorem r_istore {i : Nat} {x : Int32} (C : Cx K cc nL own rm ret nm) (d : decode cc pc = .ok (.istore i, 2)) (hn : pc + 2 = n) (hi : i < nL) (kk : V K h cells slots Q n (s1 i (.int x) ls) st) : V K h cells slots Q pc ls (.int x :: st) := by
  subst hn; exact fun H locs la hp hS hl => lv_istore C.1.1 C.1.2.1 d hl (by rw [C.2.2.2.2.2.2.2.1]; exact hi) rfl (fun la' hl' => kk H locs la' hp hS hl')
theorem r_lload_n {k : Fin 4} {x : Int64} (C : Cx K cc nL own rm ret nm) (d : decode cc pc = .ok (.lload_n k, 1)) (hn : pc + 1 = n) (hi : lk ls k.val = some (.long x)) (kk : V K h cells slots Q n ls (.long x :: st)) : V K h cells slots Q pc ls st := by
  subst hn; exact fun H locs la hp hS hl => lv_lload_n C.1.1 C.1.2.1 d rfl (hl.2.2 _ (lk_mem hi)) (kk H locs la hp hS hl)
theorem r_lload {i : Nat} {x : Int64} (C : Cx K cc nL own rm ret nm) (d : decode cc pc = .ok (.lload i, 2)) (hn : pc + 2 = n) (hi : lk ls i = some (.long x)) (kk : V K h cells slots Q n ls (.long x :: st)) : V K h cells slots Q pc ls st := by
  subst hn; exact fun H locs la hp hS hl => lv_lload C.1.1 C.1.2.1 d (hl.2.2 _ (lk_mem hi)) (kk H locs la hp hS hl)
theorem r_lstore_n {k : Fin 4} {x : Int64} (C : Cx K cc nL own rm ret nm) (d : decode cc pc = .ok (.lstore_n k, 1)) (hn : pc + 1 = n) (hi : k.val + 1 < nL) (kk : V K h cells slots Q n (s2 k.val (.long x) ls) st) : V K h cells slots Q pc ls (.long x :: st) := by
  subst hn; exact fun H locs la hp hS hl => lv_lstore_n C.1.1 C.1.2.1 d rfl hl (by rw [C.2.2.2.2.2.2.2.1]; exact hi) rfl (fun la' hl' => kk H locs la' hp hS hl')
theorem r_lstore {i : Nat} {x : Int64} (C : Cx K cc nL own rm ret nm) (d : decode cc pc = .ok (.lstore i, 2)) (hn : pc + 2 = n) (hi : i + 1 < nL) (kk : V K h cells slots Q n (s2 i (.long x) ls) st) : V K h cells slots Q pc ls (.long x :: st) := by
  subst hn; exact fun H locs la hp hS hl => lv_lstore C.1.1 C.1.2.1 d hl (by rw [C.2.2.2.2.2.2.2.1]; exact hi) rfl (fun la' hl' => kk H locs la' hp hS hl')
theorem r_aload_n {k : Fin 4} {x : Nat} (C : Cx K cc nL own rm ret nm) (d : decode cc pc = .ok (.aload_n k, 1)) (hn : pc + 1 = n) (hi : lk ls k.val = some (.ref x)) (kk : V K h cells slots Q n ls (.ref x :: st)) : V K h cells slots Q pc ls st := by
  subst hn; exact fun H locs la hp hS hl => lv_aload_n C.1.1 C.1.2.1 d rfl (hl.2.2 _ (lk_mem hi)) (kk H locs la hp hS hl)
theorem r_aload {i : Nat} {x : Nat} (C : Cx K cc nL own rm ret nm) (d : decode cc pc = .ok (.aload i, 2)) (hn : pc + 2 = n) (hi : lk ls i = some (.ref x)) (kk : V K h cells slots Q n ls (.ref x :: st)) : V K h cells slots Q pc ls st := by
  subst hn; exact fun H locs la hp hS hl => lv_aload C.1.1 C.1.2.1 d (hl.2.2 _ (lk_mem hi)) (kk H locs la hp hS hl)
theorem r_astore_n {k : Fin 4} {x : Nat} (C : Cx K cc nL own rm ret nm) (d : decode cc pc = .ok (.astore_n k, 1)) (hn : pc + 1 = n) (hi : k.val < nL) (kk : V K h cells slots Q n (s1 k.val (.ref x) ls) st) : V K h cells slots Q pc ls (.ref x :: st) := by
  subst hn; exact fun H locs la hp hS hl => lv_astore_n C.1.1 C.1.2.1 d rfl hl (by rw [C.2.2.2.2.2.2.2.1]; exact hi) rfl (fun la' hl' => kk H locs la' hp hS hl')
theorem r_astore {i : Nat} {x : Nat} (C : Cx K cc nL own rm ret nm) (d : decode cc pc = .ok (.astore i, 2)) (hn : pc + 2 = n) (hi : i < nL) (kk : V K h cells slots Q n (s1 i (.ref x) ls) st) : V K h cells slots Q pc ls (.ref x :: st) := by
  subst hn; exact fun H locs la hp hS hl => lv_astore C.1.1 C.1.2.1 d hl (by rw [C.2.2.2.2.2.2.2.1]; exact hi) rfl (fun la' hl' => kk H locs la' hp hS hl')
theorem r_dload_n {k : Fin 4} {x : UInt64} (C : Cx K cc nL own rm ret nm) (d : decode cc pc = .ok (.dload_n k, 1)) (hn : pc + 1 = n) (hi : lk ls k.val = some (.double x)) (kk : V K h cells slots Q n ls (.double x :: st)) : V K h cells slots Q pc ls st := by
  subst hn; exact fun H locs la hp hS hl => lv_dload_n C.1.1 C.1.2.1 d rfl (hl.2.2 _ (lk_mem hi)) (kk H locs la hp hS hl)
theorem r_dload {i : Nat} {x : UInt64} (C : Cx K cc nL own rm ret nm) (d : decode cc pc = .ok (.dload i, 2)) (hn : pc + 2 = n) (hi : lk ls i = some (.double x)) (kk : V K h cells slots Q n ls (.double x :: st)) : V K h cells slots Q pc ls st := by
  subst hn; exact fun H locs la hp hS hl => lv_dload C.1.1 C.1.2.1 d (hl.2.2 _ (lk_mem hi)) (kk H locs la hp hS hl)
theorem r_dstore_n {k : Fin 4} {x : UInt64} (C : Cx K cc nL own rm ret nm) (d : decode cc pc = .ok (.dstore_n k, 1)) (hn : pc + 1 = n) (hi : k.val + 1 < nL) (kk : V K h cells slots Q n (s2 k.val (.double x) ls) st) : V K h cells slots Q pc ls (.double x :: st) := by
  subst hn; exact fun H locs la hp hS hl => lv_dstore_n C.1.1 C.1.2.1 d rfl hl (by rw [C.2.2.2.2.2.2.2.1]; exact hi) rfl (fun la' hl' => kk H locs la' hp hS hl')
theorem r_dstore {i : Nat} {x : UInt64} (C : Cx K cc nL own rm ret nm) (d : decode cc pc = .ok (.dstore i, 2)) (hn : pc + 2 = n) (hi : i + 1 < nL) (kk : V K h cells slots Q n (s2 i (.double x) ls) st) : V K h cells slots Q pc ls (.double x :: st) := by
  subst hn; exact fun H locs la hp hS hl => lv_dstore C.1.1 C.1.2.1 d hl (by rw [C.2.2.2.2.2.2.2.1]; exact hi) rfl (fun la' hl' => kk H locs la' hp hS hl')
theorem r_iinc {i : Nat} {z : Int} {x v : Int32} (C : Cx K cc nL own rm ret nm) (d : decode cc pc = .ok (.iinc i z, 3)) (hn : pc + 3 = n) (hi : lk ls i = some (.int x)) (hv : x + Int32.ofInt z = v) (hl : i < nL) (kk : V K h cells slots Q n (s1 i (.int v) ls) st) : V K h cells slots Q pc ls st := by
  subst hn
  obtain ⟨j, hj⟩ := List.getElem?_of_mem (lk_mem hi)
  exact fun H locs la hp hS hl0 => lv_iinc C.1.1 C.1.2.1 d hl0 hj hv (by rw [C.2.2.2.2.2.2.2.1]; exact hl) rfl (fun la' hl' => kk H locs la' hp hS hl')
theorem r_iadd {x y : Int32} (C : Cx K cc nL own rm ret nm) (d : decode cc pc = .ok (.iadd, 1)) (hn : pc + 1 = n)  (k : V K h cells slots Q n ls (.int (x + y) :: st)) : V K h cells slots Q pc ls (.int y :: .int x :: st) := by
  subst hn; exact fun H locs la hp hS hl => lv_iadd C.1.1 C.1.2.1 d  (k H locs la hp hS hl)
theorem r_isub {x y : Int32} (C : Cx K cc nL own rm ret nm) (d : decode cc pc = .ok (.isub, 1)) (hn : pc + 1 = n)  (k : V K h cells slots Q n ls (.int (x - y) :: st)) : V K h cells slots Q pc ls (.int y :: .int x :: st) := by
  subst hn; exact fun H locs la hp hS hl => lv_isub C.1.1 C.1.2.1 d  (k H locs la hp hS hl)
theorem r_imul {x y : Int32} (C : Cx K cc nL own rm ret nm) (d : decode cc pc = .ok (.imul, 1)) (hn : pc + 1 = n)  (k : V K h cells slots Q n ls (.int (x * y) :: st)) : V K h cells slots Q pc ls (.int y :: .int x :: st) := by
  subst hn; exact fun H locs la hp hS hl => lv_imul C.1.1 C.1.2.1 d  (k H locs la hp hS hl)
theorem r_iand {x y : Int32} (C : Cx K cc nL own rm ret nm) (d : decode cc pc = .ok (.iand, 1)) (hn : pc + 1 = n)  (k : V K h cells slots Q n ls (.int (x &&& y) :: st)) : V K h cells slots Q pc ls (.int y :: .int x :: st) := by
  subst hn; exact fun H locs la hp hS hl => lv_iand C.1.1 C.1.2.1 d  (k H locs la hp hS hl)
theorem r_ladd {x y : Int64} (C : Cx K cc nL own rm ret nm) (d : decode cc pc = .ok (.ladd, 1)) (hn : pc + 1 = n)  (k : V K h cells slots Q n ls (.long (x + y) :: st)) : V K h cells slots Q pc ls (.long y :: .long x :: st) := by
  subst hn; exact fun H locs la hp hS hl => lv_ladd C.1.1 C.1.2.1 d  (k H locs la hp hS hl)
theorem r_lsub {x y : Int64} (C : Cx K cc nL own rm ret nm) (d : decode cc pc = .ok (.lsub, 1)) (hn : pc + 1 = n)  (k : V K h cells slots Q n ls (.long (x - y) :: st)) : V K h cells slots Q pc ls (.long y :: .long x :: st) := by
  subst hn; exact fun H locs la hp hS hl => lv_lsub C.1.1 C.1.2.1 d  (k H locs la hp hS hl)
theorem r_lmul {x y : Int64} (C : Cx K cc nL own rm ret nm) (d : decode cc pc = .ok (.lmul, 1)) (hn : pc + 1 = n)  (k : V K h cells slots Q n ls (.long (x * y) :: st)) : V K h cells slots Q pc ls (.long y :: .long x :: st) := by
  subst hn; exact fun H locs la hp hS hl => lv_lmul C.1.1 C.1.2.1 d  (k H locs la hp hS hl)
theorem r_idiv {x y : Int32} (C : Cx K cc nL own rm ret nm) (d : decode cc pc = .ok (.idiv, 1)) (hn : pc + 1 = n) (hne : ¬ y = 0) (k : V K h cells slots Q n ls (.int (x / y) :: st)) : V K h cells slots Q pc ls (.int y :: .int x :: st) := by
  subst hn; exact fun H locs la hp hS hl => lv_idiv C.1.1 C.1.2.1 d hne (k H locs la hp hS hl)
theorem r_irem {x y : Int32} (C : Cx K cc nL own rm ret nm) (d : decode cc pc = .ok (.irem, 1)) (hn : pc + 1 = n) (hne : ¬ y = 0) (k : V K h cells slots Q n ls (.int (x - x / y * y) :: st)) : V K h cells slots Q pc ls (.int y :: .int x :: st) := by
  subst hn; exact fun H locs la hp hS hl => lv_irem C.1.1 C.1.2.1 d hne (k H locs la hp hS hl)
theorem r_ineg {x : Int32} (C : Cx K cc nL own rm ret nm) (d : decode cc pc = .ok (.ineg, 1)) (hn : pc + 1 = n)  (k : V K h cells slots Q n ls (.int (-x) :: st)) : V K h cells slots Q pc ls (.int x :: st) := by
  subst hn; exact fun H locs la hp hS hl => lv_ineg C.1.1 C.1.2.1 d  (k H locs la hp hS hl)
theorem r_lneg {x : Int64} (C : Cx K cc nL own rm ret nm) (d : decode cc pc = .ok (.lneg, 1)) (hn : pc + 1 = n)  (k : V K h cells slots Q n ls (.long (-x) :: st)) : V K h cells slots Q pc ls (.long x :: st) := by
  subst hn; exact fun H locs la hp hS hl => lv_lneg C.1.1 C.1.2.1 d  (k H locs la hp hS hl)
theorem r_i2l {x : Int32} (C : Cx K cc nL own rm ret nm) (d : decode cc pc = .ok (.i2l, 1)) (hn : pc + 1 = n)  (k : V K h cells slots Q n ls (.long x.toInt64 :: st)) : V K h cells slots Q pc ls (.int x :: st) := by
  subst hn; exact fun H locs la hp hS hl => lv_i2l C.1.1 C.1.2.1 d rfl (k H locs la hp hS hl)
theorem r_l2i {x : Int64} (C : Cx K cc nL own rm ret nm) (d : decode cc pc = .ok (.l2i, 1)) (hn : pc + 1 = n)  (k : V K h cells slots Q n ls (.int x.toInt32 :: st)) : V K h cells slots Q pc ls (.long x :: st) := by
  subst hn; exact fun H locs la hp hS hl => lv_l2i C.1.1 C.1.2.1 d rfl (k H locs la hp hS hl)
theorem r_l2d {x : Int64} (C : Cx K cc nL own rm ret nm) (d : decode cc pc = .ok (.l2d, 1)) (hn : pc + 1 = n)  (k : V K h cells slots Q n ls (.double (FP.l2d x) :: st)) : V K h cells slots Q pc ls (.long x :: st) := by
  subst hn; exact fun H locs la hp hS hl => lv_l2d C.1.1 C.1.2.1 d  (k H locs la hp hS hl)
theorem r_ddiv {x y : UInt64} (C : Cx K cc nL own rm ret nm) (d : decode cc pc = .ok (.ddiv, 1)) (hn : pc + 1 = n) (hne : vf_n64 (FP.ddiv x y)) (k : V K h cells slots Q n ls (.double (FP.ddiv x y) :: st)) : V K h cells slots Q pc ls (.double y :: .double x :: st) := by
  subst hn; exact fun H locs la hp hS hl => lv_ddiv C.1.1 C.1.2.1 d hne (k H locs la hp hS hl)
theorem r_dcmp {x y : UInt64} {op : CmpOp} (C : Cx K cc nL own rm ret nm) (d : decode cc pc = .ok (.dcmp op, 1)) (hn : pc + 1 = n)  (k : V K h cells slots Q n ls (.int (Op.cmpValue (FP.dcmp x y) op) :: st)) : V K h cells slots Q pc ls (.double y :: .double x :: st) := by
  subst hn; exact fun H locs la hp hS hl => lv_dcmp C.1.1 C.1.2.1 d  (k H locs la hp hS hl)
theorem r_lcmp {x y : Int64} (C : Cx K cc nL own rm ret nm) (d : decode cc pc = .ok (.lcmp, 1)) (hn : pc + 1 = n)  (k : V K h cells slots Q n ls (.int (lg_cmp x y) :: st)) : V K h cells slots Q pc ls (.long y :: .long x :: st) := by
  subst hn; exact fun H locs la hp hS hl => W.lcmp C.1.1 C.1.2.1 d  (k H locs la hp hS hl)
theorem r_dup {va : Value} (C : Cx K cc nL own rm ret nm) (d : decode cc pc = .ok (.dup, 1)) (hn : pc + 1 = n) (hva : va.category = 1) (k : V K h cells slots Q n ls (va :: va :: st)) : V K h cells slots Q pc ls (va :: st) := by
  subst hn; exact fun H locs la hp hS hl => lv_dup C.1.1 C.1.2.1 d hva (k H locs la hp hS hl)
theorem r_pop {va : Value} (C : Cx K cc nL own rm ret nm) (d : decode cc pc = .ok (.pop, 1)) (hn : pc + 1 = n) (hva : va.category = 1) (k : V K h cells slots Q n ls (st)) : V K h cells slots Q pc ls (va :: st) := by
  subst hn; exact fun H locs la hp hS hl => lv_pop C.1.1 C.1.2.1 d hva (k H locs la hp hS hl)
theorem r_pop2 {va : Value} (C : Cx K cc nL own rm ret nm) (d : decode cc pc = .ok (.pop2, 1)) (hn : pc + 1 = n) (hva : va.category = 2) (k : V K h cells slots Q n ls (st)) : V K h cells slots Q pc ls (va :: st) := by
  subst hn; exact fun H locs la hp hS hl => lv_pop2_2 C.1.1 C.1.2.1 d hva (k H locs la hp hS hl)
theorem r_dup_x1 {va vb : Value} (C : Cx K cc nL own rm ret nm) (d : decode cc pc = .ok (.dup_x1, 1)) (hn : pc + 1 = n) (hva : va.category = 1) (hvb : vb.category = 1) (k : V K h cells slots Q n ls (va :: vb :: va :: st)) : V K h cells slots Q pc ls (va :: vb :: st) := by
  subst hn; exact fun H locs la hp hS hl => lv_dup_x1 C.1.1 C.1.2.1 d hva hvb (k H locs la hp hS hl)
theorem r_dup2 {va vb : Value} (C : Cx K cc nL own rm ret nm) (d : decode cc pc = .ok (.dup2, 1)) (hn : pc + 1 = n) (hva : va.category = 1) (hvb : vb.category = 1) (k : V K h cells slots Q n ls (va :: vb :: va :: vb :: st)) : V K h cells slots Q pc ls (va :: vb :: st) := by
  subst hn; exact fun H locs la hp hS hl => lv_dup2_11 C.1.1 C.1.2.1 d hva hvb (k H locs la hp hS hl)
theorem r_if_eq {x : Int32} {off : Int} {tgt : Nat} (C : Cx K cc nL own rm ret nm) (d : decode cc pc = .ok (.ifCond .eq off, 3)) (ht : (pc : Int) + off = (tgt : Int)) (hn : pc + 3 = n) (kt : x = 0 → V K h cells slots Q tgt ls st) (kf : ¬ x = 0 → V K h cells slots Q n ls st) : V K h cells slots Q pc ls (.int x :: st) := by
  subst hn; exact fun H locs la hp hS hl => lv_if_eq C.1.1 C.1.2.1 d ht (fun c0 => kt c0 H locs la hp hS hl) (fun c0 => kf c0 H locs la hp hS hl)
theorem r_icmp_eq {x y : Int32} {off : Int} {tgt : Nat} (C : Cx K cc nL own rm ret nm) (d : decode cc pc = .ok (.if_icmp .eq off, 3)) (ht : (pc : Int) + off = (tgt : Int)) (hn : pc + 3 = n) (kt : x = y → V K h cells slots Q tgt ls st) (kf : ¬ x = y → V K h cells slots Q n ls st) : V K h cells slots Q pc ls (.int y :: .int x :: st) := by
  subst hn; exact fun H locs la hp hS hl => lv_icmp_eq C.1.1 C.1.2.1 d ht (fun c0 => kt c0 H locs la hp hS hl) (fun c0 => kf c0 H locs la hp hS hl)
theorem r_if_ne {x : Int32} {off : Int} {tgt : Nat} (C : Cx K cc nL own rm ret nm) (d : decode cc pc = .ok (.ifCond .ne off, 3)) (ht : (pc : Int) + off = (tgt : Int)) (hn : pc + 3 = n) (kt : ¬ x = 0 → V K h cells slots Q tgt ls st) (kf : x = 0 → V K h cells slots Q n ls st) : V K h cells slots Q pc ls (.int x :: st) := by
  subst hn; exact fun H locs la hp hS hl => lv_if_ne C.1.1 C.1.2.1 d ht (fun c0 => kt c0 H locs la hp hS hl) (fun c0 => kf c0 H locs la hp hS hl)
theorem r_icmp_ne {x y : Int32} {off : Int} {tgt : Nat} (C : Cx K cc nL own rm ret nm) (d : decode cc pc = .ok (.if_icmp .ne off, 3)) (ht : (pc : Int) + off = (tgt : Int)) (hn : pc + 3 = n) (kt : ¬ x = y → V K h cells slots Q tgt ls st) (kf : x = y → V K h cells slots Q n ls st) : V K h cells slots Q pc ls (.int y :: .int x :: st) := by
  subst hn; exact fun H locs la hp hS hl => lv_icmp_ne C.1.1 C.1.2.1 d ht (fun c0 => kt c0 H locs la hp hS hl) (fun c0 => kf c0 H locs la hp hS hl)
theorem r_if_lt {x : Int32} {off : Int} {tgt : Nat} (C : Cx K cc nL own rm ret nm) (d : decode cc pc = .ok (.ifCond .lt off, 3)) (ht : (pc : Int) + off = (tgt : Int)) (hn : pc + 3 = n) (kt : x < 0 → V K h cells slots Q tgt ls st) (kf : ¬ x < 0 → V K h cells slots Q n ls st) : V K h cells slots Q pc ls (.int x :: st) := by
  subst hn; exact fun H locs la hp hS hl => lv_if_lt C.1.1 C.1.2.1 d ht (fun c0 => kt c0 H locs la hp hS hl) (fun c0 => kf c0 H locs la hp hS hl)
theorem r_icmp_lt {x y : Int32} {off : Int} {tgt : Nat} (C : Cx K cc nL own rm ret nm) (d : decode cc pc = .ok (.if_icmp .lt off, 3)) (ht : (pc : Int) + off = (tgt : Int)) (hn : pc + 3 = n) (kt : x < y → V K h cells slots Q tgt ls st) (kf : ¬ x < y → V K h cells slots Q n ls st) : V K h cells slots Q pc ls (.int y :: .int x :: st) := by
  subst hn; exact fun H locs la hp hS hl => lv_icmp_lt C.1.1 C.1.2.1 d ht (fun c0 => kt c0 H locs la hp hS hl) (fun c0 => kf c0 H locs la hp hS hl)
theorem r_if_ge {x : Int32} {off : Int} {tgt : Nat} (C : Cx K cc nL own rm ret nm) (d : decode cc pc = .ok (.ifCond .ge off, 3)) (ht : (pc : Int) + off = (tgt : Int)) (hn : pc + 3 = n) (kt : 0 ≤ x → V K h cells slots Q tgt ls st) (kf : ¬ 0 ≤ x → V K h cells slots Q n ls st) : V K h cells slots Q pc ls (.int x :: st) := by
  subst hn; exact fun H locs la hp hS hl => lv_if_ge C.1.1 C.1.2.1 d ht (fun c0 => kt c0 H locs la hp hS hl) (fun c0 => kf c0 H locs la hp hS hl)
theorem r_icmp_ge {x y : Int32} {off : Int} {tgt : Nat} (C : Cx K cc nL own rm ret nm) (d : decode cc pc = .ok (.if_icmp .ge off, 3)) (ht : (pc : Int) + off = (tgt : Int)) (hn : pc + 3 = n) (kt : y ≤ x → V K h cells slots Q tgt ls st) (kf : ¬ y ≤ x → V K h cells slots Q n ls st) : V K h cells slots Q pc ls (.int y :: .int x :: st) := by
  subst hn; exact fun H locs la hp hS hl => lv_icmp_ge C.1.1 C.1.2.1 d ht (fun c0 => kt c0 H locs la hp hS hl) (fun c0 => kf c0 H locs la hp hS hl)
theorem r_if_gt {x : Int32} {off : Int} {tgt : Nat} (C : Cx K cc nL own rm ret nm) (d : decode cc pc = .ok (.ifCond .gt off, 3)) (ht : (pc : Int) + off = (tgt : Int)) (hn : pc + 3 = n) (kt : 0 < x → V K h cells slots Q tgt ls st) (kf : ¬ 0 < x → V K h cells slots Q n ls st) : V K h cells slots Q pc ls (.int x :: st) := by
  subst hn; exact fun H locs la hp hS hl => lv_if_gt C.1.1 C.1.2.1 d ht (fun c0 => kt c0 H locs la hp hS hl) (fun c0 => kf c0 H locs la hp hS hl)
theorem r_icmp_gt {x y : Int32} {off : Int} {tgt : Nat} (C : Cx K cc nL own rm ret nm) (d : decode cc pc = .ok (.if_icmp .gt off, 3)) (ht : (pc : Int) + off = (tgt : Int)) (hn : pc + 3 = n) (kt : y < x → V K h cells slots Q tgt ls st) (kf : ¬ y < x → V K h cells slots Q n ls st) : V K h cells slots Q pc ls (.int y :: .int x :: st) := by
  subst hn; exact fun H locs la hp hS hl => lv_icmp_gt C.1.1 C.1.2.1 d ht (fun c0 => kt c0 H locs la hp hS hl) (fun c0 => kf c0 H locs la hp hS hl)
theorem r_if_le {x : Int32} {off : Int} {tgt : Nat} (C : Cx K cc nL own rm ret nm) (d : decode cc pc = .ok (.ifCond .le off, 3)) (ht : (pc : Int) + off = (tgt : Int)) (hn : pc + 3 = n) (kt : x ≤ 0 → V K h cells slots Q tgt ls st) (kf : ¬ x ≤ 0 → V K h cells slots Q n ls st) : V K h cells slots Q pc ls (.int x :: st) := by
  subst hn; exact fun H locs la hp hS hl => lv_if_le C.1.1 C.1.2.1 d ht (fun c0 => kt c0 H locs la hp hS hl) (fun c0 => kf c0 H locs la hp hS hl)
theorem r_icmp_le {x y : Int32} {off : Int} {tgt : Nat} (C : Cx K cc nL own rm ret nm) (d : decode cc pc = .ok (.if_icmp .le off, 3)) (ht : (pc : Int) + off = (tgt : Int)) (hn : pc + 3 = n) (kt : x ≤ y → V K h cells slots Q tgt ls st) (kf : ¬ x ≤ y → V K h cells slots Q n ls st) : V K h cells slots Q pc ls (.int y :: .int x :: st) := by
  subst hn; exact fun H locs la hp hS hl => lv_icmp_le C.1.1 C.1.2.1 d ht (fun c0 => kt c0 H locs la hp hS hl) (fun c0 => kf c0 H locs la hp hS hl)
theorem r_goto {off : Int} {tgt : Nat} (C : Cx K cc nL own rm ret nm) (d : decode cc pc = .ok (.goto off, 3)) (ht : (pc : Int) + off = (tgt : Int)) (k : V K h cells slots Q tgt ls st) : V K h cells slots Q pc ls st := fun H locs la hp hS hl => lv_goto C.1.1 C.1.2.1 d ht (k H locs la hp hS hl)
theorem r_tableOut {dflt lo hi : Int} {offs : Array Int} {len : Nat} {x : Int32} {tgt : Nat} (C : Cx K cc nL own rm ret nm) (d : decode cc pc = .ok (.tableswitch dflt lo hi offs, len)) (hx : x.toInt < lo ∨ hi < x.toInt) (ht : (pc : Int) + dflt = (tgt : Int)) (k : V K h cells slots Q tgt ls st) : V K h cells slots Q pc ls (.int x :: st) := fun H locs la hp hS hl => lv_tableOut C.1.1 C.1.2.1 d hx ht (k H locs la hp hS hl)
theorem r_tableIn {dflt lo hi : Int} {offs : Array Int} {len : Nat} {x : Int32} {off : Int} {tgt : Nat} (C : Cx K cc nL own rm ret nm) (d : decode cc pc = .ok (.tableswitch dflt lo hi offs, len)) (h1 : ¬ x.toInt < lo) (h2 : ¬ hi < x.toInt) (ho : offs[(x.toInt - lo).toNat]? = some off) (ht : (pc : Int) + off = (tgt : Int)) (k : V K h cells slots Q tgt ls st) : V K h cells slots Q pc ls (.int x :: st) := fun H locs la hp hS hl => lv_tableIn C.1.1 C.1.2.1 d h1 h2 ho ht (k H locs la hp hS hl)
theorem r_lookup {dflt : Int} {ps : Array (Int × Int)} {len : Nat} {x : Int32} {off : Int} {tgt : Nat} (C : Cx K cc nL own rm ret nm) (d : decode cc pc = .ok (.lookupswitch dflt ps, len)) (hq : (ps.toList.zip (ps.toList.drop 1)).all (fun (a, next) => a.1 < next.1) = true) (ho : Op.lookupswitch.offset ps.toList dflt x.toInt = off) (ht : (pc : Int) + off = (tgt : Int)) (k : V K h cells slots Q tgt ls st) : V K h cells slots Q pc ls (.int x :: st) := fun H locs la hp hS hl => lv_lookup C.1.1 C.1.2.1 d hq ho ht (k H locs la hp hS hl)
theorem r_ldc {index : Nat} {v : Int32} (C : Cx K cc nL own rm ret nm) (hw : Jvm.Cond.constant own index v ∈ tblG) (d : decode cc pc = .ok (.ldc index, 2)) (hn : pc + 2 = n) (k : V K h cells slots Q n ls (.int v :: st)) : V K h cells slots Q pc ls st := by
  subst hn; exact fun H locs la hp hS hl => lv_ldc C.1.1 C.1.2.1 C.1.2.2.2.1 (C.1.2.2.2.2 _ hw) d (k H locs la hp hS hl)
theorem r_ldc2 {index : Nat} {v : Int64} (C : Cx K cc nL own rm ret nm) (hw : Jvm.Cond.constantLong own index v ∈ tblG) (d : decode cc pc = .ok (.ldc2_w index, 3)) (hn : pc + 3 = n) (k : V K h cells slots Q n ls (.long v :: st)) : V K h cells slots Q pc ls st := by
  subst hn; exact fun H locs la hp hS hl => lv_ldc2 C.1.1 C.1.2.1 C.1.2.2.2.1 (C.1.2.2.2.2 _ hw) d (k H locs la hp hS hl)
theorem r_get {ref Cn : String} {T : u_T} {N ci index a : Nat} {fs : List Value} {v : Value} (C : Cx K cc nL own rm ret nm) (hin : ∀ w ∈ u_ws Cn T N, w ∈ tblG) (hc : vwCl[ci]? = some (Cn, T, N)) (j : Nat) (hj : j < N) (hl0 : Cond.fieldLink own index ref (T j).2.1 (T j).2.2.1 ∈ tblG) (hr : (T j).1 = ref) (d : decode cc pc = .ok (.getfield index, 3)) (hn : pc + 3 = n) (ha : h a = some (.inr (ci, fs))) (hv : fs[j]? = some v) (k : V K h cells slots Q n ls (v :: st)) : V K h cells slots Q pc ls (.ref a :: st) := by
  subst hn; subst hr
  intro H locs la hp hS hl
  obtain ⟨ws, hP, -, hh⟩ := id hp
  obtain ⟨q0, hq⟩ := hh a _ ha
  exact va_get C.1.1 C.1.2.1 C.1.2.2.2.2 hin C.1.2.2.2.1 C.2.1 hP q0 hq hc j hj (C.1.2.2.2.2 _ hl0) (fun _ h9 => h9) hv d (k H locs la hp hS hl)
theorem r_getN {ref Cn host : String} {T : u_T} {N ci index a : Nat} {fs : List Value} {v : Value} (C : Cx K cc nL own rm ret nm) (hin : ∀ w ∈ u_ws Cn T N, w ∈ tblG) (hc : vwCl[ci]? = some (Cn, T, N)) (j : Nat) (hj : j < N) (hl0 : Cond.fieldLinkNest own index ref (T j).2.1 (T j).2.2.1 host ∈ tblG) (hr : (T j).1 = ref) (d : decode cc pc = .ok (.getfield index, 3)) (hn : pc + 3 = n) (ha : h a = some (.inr (ci, fs))) (hv : fs[j]? = some v) (k : V K h cells slots Q n ls (v :: st)) : V K h cells slots Q pc ls (.ref a :: st) := by
  subst hn; subst hr
  intro H locs la hp hS hl
  obtain ⟨ws, hP, -, hh⟩ := id hp
  obtain ⟨q0, hq⟩ := hh a _ ha
  exact va_getN C.1.1 C.1.2.1 C.1.2.2.2.2 hin C.1.2.2.2.1 C.2.1 hP q0 hq hc j hj (C.1.2.2.2.2 _ hl0) (fun _ h9 => h9) hv d (k H locs la hp hS hl)
theorem r_put {ref Cn : String} {T : u_T} {N ci index a : Nat} {fs : List Value} {v : Value} {ty : FieldType} (C : Cx K cc nL own rm ret nm) (hin : ∀ w ∈ u_ws Cn T N, w ∈ tblG) (ty0 : Nat → FieldType) (hty : ∀ k, k < N → parseFieldDescriptor (T k).2.2.1 = some (ty0 k)) (hnm : ∀ a, a < N → ∀ b, b < N → a ≠ b → (T a).2.1 ≠ (T b).2.1) (hc : vwCl[ci]? = some (Cn, T, N)) (j : Nat) (hj : j < N) (hl0 : Cond.fieldLink own index ref (T j).2.1 (T j).2.2.1 ∈ tblG) (hr : (T j).1 = ref) (hfin : (T j).2.2.2 = false) (hd : parseFieldDescriptor (T j).2.2.1 = some ty) (hna : narrow ty v = v) (hfit : fits ty v = true) (d : decode cc pc = .ok (.putfield index, 3)) (hn : pc + 3 = n) (ha : h a = some (.inr (ci, fs))) (hlen : j < fs.length) (k : V K (hu h a (.inr (ci, fs.set j v))) cells slots Q n ls st) : V K h cells slots Q pc ls (v :: .ref a :: st) := by
  subst hn; subst hr
  intro H locs la hp hS hl
  obtain ⟨ws, hP, hD, hh⟩ := id hp
  obtain ⟨q0, hq⟩ := hh a _ ha
  exact va_put C.1.1 C.1.2.1 C.1.2.2.2.2 hin ty0 hty hnm C.1.2.2.2.1 C.2.1 hP hD hS q0 hq hc j hj (C.1.2.2.2.2 _ hl0) (fun _ h9 => h9) hfin hd hna hfit hlen d (fun H1 locs1 hP1 hD1 hS1 => k H1 locs1 la ⟨_, hP1, hD1, Hp.set hD hq hh⟩ hS1 hl)
theorem r_putF {ref Cn : String} {T : u_T} {N ci index a : Nat} {fs : List Value} {v : Value} {ty : FieldType} (C : Cx K cc nL own rm ret nm) (hin : ∀ w ∈ u_ws Cn T N, w ∈ tblG) (ty0 : Nat → FieldType) (hty : ∀ k, k < N → parseFieldDescriptor (T k).2.2.1 = some (ty0 k)) (hnm : ∀ a, a < N → ∀ b, b < N → a ≠ b → (T a).2.1 ≠ (T b).2.1) (hc : vwCl[ci]? = some (Cn, T, N)) (j : Nat) (hj : j < N) (hl0 : Cond.fieldLink own index ref (T j).2.1 (T j).2.2.1 ∈ tblG) (hr : (T j).1 = ref) (hfin : (T j).2.2.2 = true) (hin2 : nm = "<init>") (hown : (T j).1 = own) (hd : parseFieldDescriptor (T j).2.2.1 = some ty) (hna : narrow ty v = v) (hfit : fits ty v = true) (d : decode cc pc = .ok (.putfield index, 3)) (hn : pc + 3 = n) (ha : h a = some (.inr (ci, fs))) (hlen : j < fs.length) (k : V K (hu h a (.inr (ci, fs.set j v))) cells slots Q n ls st) : V K h cells slots Q pc ls (v :: .ref a :: st) := by
  subst hn; subst hr
  intro H locs la hp hS hl
  obtain ⟨ws, hP, hD, hh⟩ := id hp
  obtain ⟨q0, hq⟩ := hh a _ ha
  exact va_putF C.1.1 C.1.2.1 C.1.2.2.2.2 hin ty0 hty hnm C.1.2.2.2.1 C.2.1 hP hD hS q0 hq hc j hj (C.1.2.2.2.2 _ hl0) (fun _ h9 => h9) hfin (C.2.2.2.2.2.2.1.trans hin2) hown hd hna hfit hlen d (fun H1 locs1 hP1 hD1 hS1 => k H1 locs1 la ⟨_, hP1, hD1, Hp.set hD hq hh⟩ hS1 hl)
theorem r_putN {ref Cn host : String} {T : u_T} {N ci index a : Nat} {fs : List Value} {v : Value} {ty : FieldType} (C : Cx K cc nL own rm ret nm) (hin : ∀ w ∈ u_ws Cn T N, w ∈ tblG) (ty0 : Nat → FieldType) (hty : ∀ k, k < N → parseFieldDescriptor (T k).2.2.1 = some (ty0 k)) (hnm : ∀ a, a < N → ∀ b, b < N → a ≠ b → (T a).2.1 ≠ (T b).2.1) (hc : vwCl[ci]? = some (Cn, T, N)) (j : Nat) (hj : j < N) (hl0 : Cond.fieldLinkNest own index ref (T j).2.1 (T j).2.2.1 host ∈ tblG) (hr : (T j).1 = ref) (hfin : (T j).2.2.2 = false) (hd : parseFieldDescriptor (T j).2.2.1 = some ty) (hna : narrow ty v = v) (hfit : fits ty v = true) (d : decode cc pc = .ok (.putfield index, 3)) (hn : pc + 3 = n) (ha : h a = some (.inr (ci, fs))) (hlen : j < fs.length) (k : V K (hu h a (.inr (ci, fs.set j v))) cells slots Q n ls st) : V K h cells slots Q pc ls (v :: .ref a :: st) := by
  subst hn; subst hr
  intro H locs la hp hS hl
  obtain ⟨ws, hP, hD, hh⟩ := id hp
  obtain ⟨q0, hq⟩ := hh a _ ha
  exact va_putN C.1.1 C.1.2.1 C.1.2.2.2.2 hin ty0 hty hnm C.1.2.2.2.1 C.2.1 hP hD hS q0 hq hc j hj (C.1.2.2.2.2 _ hl0) (fun _ h9 => h9) hfin hd hna hfit hlen d (fun H1 locs1 hP1 hD1 hS1 => k H1 locs1 la ⟨_, hP1, hD1, Hp.set hD hq hh⟩ hS1 hl)
theorem xk_in {i : Int32} {j N : Nat} (hi : i = nI j) (hj : j < N) (hN : N < 2147483648) : vp_in i N := by rw [hi]; exact vp_in_nI hj hN
theorem xk_cl {i : Int32} {j N : Nat} (hi : i = nI j) (hj : j < N) (hN : N < 2147483648) : i.toNatClampNeg = j := by rw [hi]; exact nI_clamp (by omega)
theorem r_iald {i : Int32} {a N : Nat} {f : Nat → Int32} (C : Cx K cc nL own rm ret nm) (d : decode cc pc = .ok (.iaload, 1)) (hn : pc + 1 = n) (ha : h a = some (.inl ((Ko K).2.1 0, N, .inl f))) (j : Nat) (hi : i = nI j) (hj : j < N) (hN : N < 2147483648) (k : V K h cells slots Q n ls (.int (f j) :: st)) : V K h cells slots Q pc ls (.int i :: .ref a :: st) := by
  subst hn
  intro H locs la hp hS hl
  obtain ⟨ws, hP, -, hh⟩ := id hp
  obtain ⟨q0, hq⟩ := hh a _ ha
  refine va_iald C.1.1 C.1.2.1 C.2.1 hP q0 0 hq rfl (xk_in hi hj hN) d ?_
  rw [xk_cl hi hj hN]
  exact k H locs la hp hS hl
theorem r_lald {i : Int32} {a N : Nat} {f : Nat → Int64} (C : Cx K cc nL own rm ret nm) (d : decode cc pc = .ok (.laload, 1)) (hn : pc + 1 = n) (ha : h a = some (.inl ((Ko K).2.1 1, N, .inr (.inl f)))) (j : Nat) (hi : i = nI j) (hj : j < N) (hN : N < 2147483648) (k : V K h cells slots Q n ls (.long (f j) :: st)) : V K h cells slots Q pc ls (.int i :: .ref a :: st) := by
  subst hn
  intro H locs la hp hS hl
  obtain ⟨ws, hP, -, hh⟩ := id hp
  obtain ⟨q0, hq⟩ := hh a _ ha
  refine va_lald C.1.1 C.1.2.1 C.2.1 hP q0 1 hq rfl (xk_in hi hj hN) d ?_
  rw [xk_cl hi hj hN]
  exact k H locs la hp hS hl
theorem r_iast {i : Int32} {x : Int32} {a N : Nat} {f : Nat → Int32} (C : Cx K cc nL own rm ret nm) (d : decode cc pc = .ok (.iastore, 1)) (hn : pc + 1 = n) (ha : h a = some (.inl ((Ko K).2.1 0, N, .inl f))) (j : Nat) (hi : i = nI j) (hj : j < N) (hN : N < 2147483648) (k : V K (hu h a (.inl ((Ko K).2.1 0, N, .inl (upd f j x)))) cells slots Q n ls st) : V K h cells slots Q pc ls (.int x :: .int i :: .ref a :: st) := by
  subst hn
  intro H locs la hp hS hl
  obtain ⟨ws, hP, hD, hh⟩ := id hp
  obtain ⟨q0, hq⟩ := hh a _ ha
  refine va_iast C.1.1 C.1.2.1 C.2.1 hP hD hS q0 0 hq rfl (xk_in hi hj hN) d (fun H1 locs1 hP1 hD1 hS1 => ?_)
  rw [xk_cl hi hj hN] at hP1 hD1
  exact k H1 locs1 la ⟨_, hP1, hD1, Hp.set hD hq hh⟩ hS1 hl
theorem r_last {i : Int32} {x : Int64} {a N : Nat} {f : Nat → Int64} (C : Cx K cc nL own rm ret nm) (d : decode cc pc = .ok (.lastore, 1)) (hn : pc + 1 = n) (ha : h a = some (.inl ((Ko K).2.1 1, N, .inr (.inl f)))) (j : Nat) (hi : i = nI j) (hj : j < N) (hN : N < 2147483648) (k : V K (hu h a (.inl ((Ko K).2.1 1, N, .inr (.inl (vp_updL f j x))))) cells slots Q n ls st) : V K h cells slots Q pc ls (.long x :: .int i :: .ref a :: st) := by
  subst hn
  intro H locs la hp hS hl
  obtain ⟨ws, hP, hD, hh⟩ := id hp
  obtain ⟨q0, hq⟩ := hh a _ ha
  refine va_last C.1.1 C.1.2.1 C.2.1 hP hD hS q0 1 hq rfl (xk_in hi hj hN) d (fun H1 locs1 hP1 hD1 hS1 => ?_)
  rw [xk_cl hi hj hN] at hP1 hD1
  exact k H1 locs1 la ⟨_, hP1, hD1, Hp.set hD hq hh⟩ hS1 hl
theorem r_ialen {a N : Nat} {f : Nat → Int32} (C : Cx K cc nL own rm ret nm) (d : decode cc pc = .ok (.arraylength, 1)) (hn : pc + 1 = n) (ha : h a = some (.inl ((Ko K).2.1 0, N, .inl f))) (k : V K h cells slots Q n ls (.int (nI N) :: st)) : V K h cells slots Q pc ls (.ref a :: st) := by
  subst hn
  intro H locs la hp hS hl
  obtain ⟨ws, hP, -, hh⟩ := id hp
  obtain ⟨q0, hq⟩ := hh a _ ha
  exact va_alen C.1.1 C.1.2.1 C.2.1 hP q0 0 hq rfl rfl d (k H locs la hp hS hl)
theorem r_lalen {a N : Nat} {f : Nat → Int64} (C : Cx K cc nL own rm ret nm) (d : decode cc pc = .ok (.arraylength, 1)) (hn : pc + 1 = n) (ha : h a = some (.inl ((Ko K).2.1 1, N, .inr (.inl f)))) (k : V K h cells slots Q n ls (.int (nI N) :: st)) : V K h cells slots Q pc ls (.ref a :: st) := by
  subst hn
  intro H locs la hp hS hl
  obtain ⟨ws, hP, -, hh⟩ := id hp
  obtain ⟨q0, hq⟩ := hh a _ ha
  exact va_alen C.1.1 C.1.2.1 C.2.1 hP q0 1 hq rfl rfl d (k H locs la hp hS hl)
theorem r_qalen {a N t0 : Nat} {cA : ClassId} {E : String} {f : Nat → Option Nat} (C : Cx K cc nL own rm ret nm) (d : decode cc pc = .ok (.arraylength, 1)) (hn : pc + 1 = n) (ha : h a = some (.inl (cA, N, .inr (.inr (.inr (.inr f)))))) (ht : (xk_tys (Ko K))[t0]? = some (cA, .object E)) (k : V K h cells slots Q n ls (.int (nI N) :: st)) : V K h cells slots Q pc ls (.ref a :: st) := by
  subst hn
  intro H locs la hp hS hl
  obtain ⟨ws, hP, -, hh⟩ := id hp
  obtain ⟨q0, hq⟩ := hh a _ ha
  exact va_alen C.1.1 C.1.2.1 C.2.1 hP q0 t0 hq ht rfl d (k H locs la hp hS hl)
theorem r_aald {i : Int32} {a N t0 v : Nat} {cA : ClassId} {E : String} {f : Nat → Option Nat} (C : Cx K cc nL own rm ret nm) (d : decode cc pc = .ok (.aaload, 1)) (hn : pc + 1 = n) (ha : h a = some (.inl (cA, N, .inr (.inr (.inr (.inr f)))))) (ht : (xk_tys (Ko K))[t0]? = some (cA, .object E)) (j : Nat) (hi : i = nI j) (hj : j < N) (hN : N < 2147483648) (hv : f j = some v) (k : V K h cells slots Q n ls (.ref v :: st)) : V K h cells slots Q pc ls (.int i :: .ref a :: st) := by
  subst hn
  intro H locs la hp hS hl
  obtain ⟨ws, hP, -, hh⟩ := id hp
  obtain ⟨q0, hq⟩ := hh a _ ha
  refine va_aldq C.1.1 C.1.2.1 C.2.1 hP q0 t0 hq ht (xk_in hi hj hN) d ?_
  rw [xk_cl hi hj hN, hv]
  exact k H locs la hp hS hl
theorem r_aast {i : Int32} {a N t0 ci v : Nat} {cA : ClassId} {r : vw_C} {vs : List Value} {f : Nat → Option Nat} (C : Cx K cc nL own rm ret nm) (d : decode cc pc = .ok (.aastore, 1)) (hn : pc + 1 = n) (ha : h a = some (.inl (cA, N, .inr (.inr (.inr (.inr f)))))) (hv : h v = some (.inr (ci, vs))) (hc : vwCl[ci]? = some r) (ht : (xk_tys (Ko K))[t0]? = some (cA, .object r.1)) (j : Nat) (hi : i = nI j) (hj : j < N) (hN : N < 2147483648) (k : V K (hu h a (.inl (cA, N, .inr (.inr (.inr (.inr (va_up f j (some v)))))))) cells slots Q n ls st) : V K h cells slots Q pc ls (.ref v :: .int i :: .ref a :: st) := by
  subst hn
  intro H locs la hp hS hl
  obtain ⟨ws, hP, hD, hh⟩ := id hp
  obtain ⟨q0, hq⟩ := hh a _ ha
  obtain ⟨q1, hq1⟩ := hh v _ hv
  refine va_astq C.1.1 C.1.2.1 C.2.1 hP hD hS q0 t0 q1 ci hq ht hq1 hc (xk_in hi hj hN) d (fun H1 locs1 hP1 hD1 hS1 => ?_)
  rw [xk_cl hi hj hN] at hP1 hD1
  exact k H1 locs1 la ⟨_, hP1, hD1, Hp.set hD hq hh⟩ hS1 hl
theorem r_newi {z : Int32} {N : Nat} (C : Cx K cc nL own rm ret nm) (hw : Cond.arrayClass (newarray.typeOf .int) ∈ tblG) (d : decode cc pc = .ok (.newarray .int, 2)) (hn : pc + 2 = n) (hz : z = nI N) (hN : N * componentBytes .int ≤ 536870912) (hN2 : N < 2147483648) (hcell : cells + 1 ≤ rm.cells) (hslot : slots + N ≤ rm.slots) (k : ∀ q : Nat, h q = none → V K (hu h q (.inl ((Ko K).2.1 0, N, .inl (fun _ => 0)))) (cells + 1) (slots + N) Q n ls (.ref q :: st)) : V K h cells slots Q pc ls (.int z :: st) := by
  subst hn
  intro H locs la hp hS hl
  obtain ⟨ws, hP, hD, hh⟩ := id hp
  have hR : KR K = rm := C.2.2.2.1
  refine va_newa (ty := .int) (a0 := (N, .inl (fun _ => 0))) C.1.1 C.1.2.1 (C.1.2.2.2.2 _ hw) rfl C.2.1 hP hD hS (fun q hq => Nat.le_trans C.2.2.1 hq) (fun cA => rfl) (by rw [hz]; exact nI_pos hN2) (by rw [hz]; exact nI_clamp hN2) hN (by rw [hR]; exact hcell) (by rw [hR]; exact hslot) d (fun q cA H1 hK1 hP1 hD1 hS1 => ?_)
  have e : cA = (Ko K).2.1 0 := by
    have h1 := (C.2.1.2 0 _ (show (xk_tys (Ko K))[0]? = some ((Ko K).2.1 0, .int) from rfl)).2
    have h2 := (hK1.2 (xk_tys (Ko K)).length (cA, .int) (by simp)).2
    exact Option.some.inj (h2.symm.trans h1)
  subst e
  exact k q (Hp.fresh hD1 hh) H1 locs la ⟨_, hP1, hD1, Hp.push hh⟩ hS1 hl
theorem r_newl {z : Int32} {N : Nat} (C : Cx K cc nL own rm ret nm) (hw : Cond.arrayClass (newarray.typeOf .long) ∈ tblG) (d : decode cc pc = .ok (.newarray .long, 2)) (hn : pc + 2 = n) (hz : z = nI N) (hN : N * componentBytes .long ≤ 536870912) (hN2 : N < 2147483648) (hcell : cells + 1 ≤ rm.cells) (hslot : slots + N ≤ rm.slots) (k : ∀ q : Nat, h q = none → V K (hu h q (.inl ((Ko K).2.1 1, N, .inr (.inl (fun _ => 0))))) (cells + 1) (slots + N) Q n ls (.ref q :: st)) : V K h cells slots Q pc ls (.int z :: st) := by
  subst hn
  intro H locs la hp hS hl
  obtain ⟨ws, hP, hD, hh⟩ := id hp
  have hR : KR K = rm := C.2.2.2.1
  refine va_newa (ty := .long) (a0 := (N, .inr (.inl (fun _ => 0)))) C.1.1 C.1.2.1 (C.1.2.2.2.2 _ hw) rfl C.2.1 hP hD hS (fun q hq => Nat.le_trans C.2.2.1 hq) (fun cA => rfl) (by rw [hz]; exact nI_pos hN2) (by rw [hz]; exact nI_clamp hN2) hN (by rw [hR]; exact hcell) (by rw [hR]; exact hslot) d (fun q cA H1 hK1 hP1 hD1 hS1 => ?_)
  have e : cA = (Ko K).2.1 1 := by
    have h1 := (C.2.1.2 1 _ (show (xk_tys (Ko K))[1]? = some ((Ko K).2.1 1, .long) from rfl)).2
    have h2 := (hK1.2 (xk_tys (Ko K)).length (cA, .long) (by simp)).2
    exact Option.some.inj (h2.symm.trans h1)
  subst e
  exact k q (Hp.fresh hD1 hh) H1 locs la ⟨_, hP1, hD1, Hp.push hh⟩ hS1 hl
theorem r_newq {z : Int32} {N t0 index : Nat} {E : String} {cA0 : ClassId} (C : Cx K cc nL own rm ret nm) (hcl : Cond.classLink own index E ∈ tblG) (hao : va_AO E (Ks K)) (ht : (xk_tys (Ko K))[t0]? = some (cA0, .object E)) (d : decode cc pc = .ok (.anewarray index, 3)) (hn : pc + 3 = n) (hz : z = nI N) (hN : N * 4 ≤ 536870912) (hcell : cells + 1 ≤ rm.cells) (hslot : slots + N ≤ rm.slots) (k : ∀ q : Nat, h q = none → V K (hu h q (.inl (cA0, N, .inr (.inr (.inr (.inr (fun _ => none))))))) (cells + 1) (slots + N) Q n ls (.ref q :: st)) : V K h cells slots Q pc ls (.int z :: st) := by
  subst hn
  intro H locs la hp hS hl
  obtain ⟨ws, hP, hD, hh⟩ := id hp
  have hR : KR K = rm := C.2.2.2.1
  have hN2 : N < 2147483648 := by omega
  refine va_newq C.1.1 C.1.2.1 C.1.2.2.2.1 (C.1.2.2.2.2 _ hcl) hao C.2.1 hP hD hS (fun q hq => Nat.le_trans C.2.2.1 hq) (by rw [hz]; exact nI_pos hN2) (by rw [hz]; exact nI_clamp hN2) hN (by rw [hR]; exact hcell) (by rw [hR]; exact hslot) d (fun q cA H1 hK1 hP1 hD1 hS1 => ?_)
  have e : cA = cA0 := by
    obtain ⟨_, _, _, _, _, h1⟩ := (C.2.1.2 t0 _ ht).2
    obtain ⟨_, _, _, _, _, h2⟩ := (hK1.2 (xk_tys (Ko K)).length (cA, .object E) (by simp)).2
    exact Option.some.inj (h2.symm.trans h1)
  subst e
  exact k q (Hp.fresh hD1 hh) H1 locs la ⟨_, hP1, hD1, Hp.push hh⟩ hS1 hl
theorem r_new {Cn : String} {T : u_T} {N ci index : Nat} {fs : List Value} (C : Cx K cc nL own rm ret nm) (hin : ∀ w ∈ u_ws Cn T N, w ∈ tblG) (ty : Nat → FieldType) (hty : ∀ k, k < N → parseFieldDescriptor (T k).2.2.1 = some (ty k)) (hcl : Cond.classLink own index Cn ∈ tblG) (hinst : Cond.instantiable Cn N ∈ tblG) (hini : Cond.initialized Cn ∈ tblG) (hc : vwCl[ci]? = some (Cn, T, N)) (hfs : ∀ j, j < N → defaultValue (ty j) = vp_V fs j) (d : decode cc pc = .ok (.new index, 3)) (hn : pc + 3 = n) (hcell : cells + 1 ≤ rm.cells) (hslot : slots + N ≤ rm.slots) (k : ∀ q : Nat, h q = none → V K (hu h q (.inr (ci, fs))) (cells + 1) (slots + N) Q n ls (.ref q :: st)) : V K h cells slots Q pc ls st := by
  subst hn
  intro H locs la hp hS hl
  obtain ⟨ws, hP, hD, hh⟩ := id hp
  have hR : KR K = rm := C.2.2.2.1
  have hts := C.1.2.2.2.2
  refine va_new C.1.1 C.1.2.1 hts hin ty hty C.1.2.2.2.1 (hts _ hcl) (hts _ hinst) (hts _ hini) C.2.1 hP hD hS (fun q hq => Nat.le_trans C.2.2.1 hq) hc hfs (by rw [hR]; exact hcell) (by rw [hR]; exact hslot) d (fun q H1 hP1 hD1 hS1 => ?_)
  exact k q (Hp.fresh hD1 hh) H1 locs la ⟨_, hP1, hD1, Hp.push hh⟩ hS1 hl
theorem r_objInit {idx a : Nat} (C : Cx K cc nL own rm ret nm) (hlk : Cond.methodLink own idx objectInit ∈ tblG) (hin : Cond.instanceMethod objectInit ∈ tblG) (hco : Cond.code objectInit ⟨#[0xb1]⟩ 1 none ∈ tblG) (d : decode cc pc = .ok (.invokespecial idx, 3)) (hn : pc + 3 = n) (hf : 1 ≤ rm.frames) (hl0 : (st.map fun v => v.category).sum + 12 ≤ rm.locals) (k : V K h cells slots Q n ls st) : V K h cells slots Q pc ls (.ref a :: st) := by
  subst hn
  intro H locs la hp hS hl
  have hR : KR K = rm := C.2.2.2.1
  have hts := C.1.2.2.2.2
  refine W.objInit C.1.1 C.1.2.1 C.1.2.2.2.1 (hts _ hlk) (hts _ hin) (hts _ hco) rfl (by rw [C.1.2.2.1]; exact hl.1) rfl d (by rw [hR]; exact hf) (by rw [hR]; simpa [JFrame.monitorRoom] using hl0) ?_
  exact k H locs la hp hS hl
theorem r_copyi {index a0 a n0 n1 : Nat} {f g : Nat → Int32} {sp dp z : Int32} (C : Cx K cc nL own rm ret nm) (hlk : Cond.methodLink own index arraycopyName ∈ tblG) (hnat : Cond.native arraycopyName ∈ tblG) (hstat : Cond.static arraycopyName ∈ tblG) (hini : Cond.initialized "java/lang/System" ∈ tblG) (d : decode cc pc = .ok (.invokestatic index, 3)) (hn : pc + 3 = n) (ha0 : h a0 = some (.inl ((Ko K).2.1 0, n0, .inl f))) (ha1 : h a = some (.inl ((Ko K).2.1 0, n1, .inl g))) (sp0 dp0 z0 : Nat) (h1 : sp = nI sp0) (h2 : dp = nI dp0) (h3 : z = nI z0) (h4 : sp0 + z0 ≤ n0) (h5 : dp0 + z0 ≤ n1) (hb0 : n0 < 2147483648) (hb1 : n1 < 2147483648) (hf : 1 ≤ rm.frames) (hlo : (st.map fun v => v.category).sum + (nativeFrameWords "java/lang/System" "arraycopy" 5 + 11) ≤ rm.locals) (k : V K (hu h a (.inl ((Ko K).2.1 0, n1, .inl (va_cpy f g sp0 dp0 z0)))) cells slots Q n ls st) : V K h cells slots Q pc ls (.int z :: .int dp :: .ref a :: .int sp :: .ref a0 :: st) := by
  subst hn; subst h1; subst h2; subst h3
  intro H locs la hp hS hl
  obtain ⟨ws, hP, hD, hh⟩ := id hp
  obtain ⟨q0, hq0⟩ := hh a0 _ ha0
  obtain ⟨q1, hq1⟩ := hh a _ ha1
  have hR : KR K = rm := C.2.2.2.1
  have hts := C.1.2.2.2.2
  have e1 : (nI sp0).toNatClampNeg = sp0 := nI_clamp (by omega)
  have e2 : (nI dp0).toNatClampNeg = dp0 := nI_clamp (by omega)
  have e3 : (nI z0).toNatClampNeg = z0 := nI_clamp (by omega)
  refine va_copyi C.1.1 C.1.2.1 (C.1.2.2.1.trans hl.1.symm) C.1.2.2.2.1 (hts _ hlk) (hts _ hnat) (hts _ hstat) (hts _ hini) C.2.1 hP hD hS q0 q1 0 0 hq0 hq1 rfl rfl rfl (nI_pos (by omega)) (nI_pos (by omega)) (nI_pos (by omega)) (by rw [e1, e3]; exact h4) (by rw [e2, e3]; exact h5) (fun i _ => rfl) (by rw [hR]; exact hf) (by rw [hR]; exact hlo) d (fun H1 locs1 hP1 hD1 hS1 => ?_)
  rw [e1, e2, e3] at hP1 hD1
  exact k H1 locs1 la ⟨_, hP1, hD1, Hp.set hD hq1 hh⟩ hS1 hl
theorem r_copyl {index a0 a n0 n1 : Nat} {f g : Nat → Int64} {sp dp z : Int32} (C : Cx K cc nL own rm ret nm) (hlk : Cond.methodLink own index arraycopyName ∈ tblG) (hnat : Cond.native arraycopyName ∈ tblG) (hstat : Cond.static arraycopyName ∈ tblG) (hini : Cond.initialized "java/lang/System" ∈ tblG) (d : decode cc pc = .ok (.invokestatic index, 3)) (hn : pc + 3 = n) (ha0 : h a0 = some (.inl ((Ko K).2.1 1, n0, .inr (.inl f)))) (ha1 : h a = some (.inl ((Ko K).2.1 1, n1, .inr (.inl g)))) (sp0 dp0 z0 : Nat) (h1 : sp = nI sp0) (h2 : dp = nI dp0) (h3 : z = nI z0) (h4 : sp0 + z0 ≤ n0) (h5 : dp0 + z0 ≤ n1) (hb0 : n0 < 2147483648) (hb1 : n1 < 2147483648) (hf : 1 ≤ rm.frames) (hlo : (st.map fun v => v.category).sum + (nativeFrameWords "java/lang/System" "arraycopy" 5 + 11) ≤ rm.locals) (k : V K (hu h a (.inl ((Ko K).2.1 1, n1, .inr (.inl (va_cpy f g sp0 dp0 z0))))) cells slots Q n ls st) : V K h cells slots Q pc ls (.int z :: .int dp :: .ref a :: .int sp :: .ref a0 :: st) := by
  subst hn; subst h1; subst h2; subst h3
  intro H locs la hp hS hl
  obtain ⟨ws, hP, hD, hh⟩ := id hp
  obtain ⟨q0, hq0⟩ := hh a0 _ ha0
  obtain ⟨q1, hq1⟩ := hh a _ ha1
  have hR : KR K = rm := C.2.2.2.1
  have hts := C.1.2.2.2.2
  have e1 : (nI sp0).toNatClampNeg = sp0 := nI_clamp (by omega)
  have e2 : (nI dp0).toNatClampNeg = dp0 := nI_clamp (by omega)
  have e3 : (nI z0).toNatClampNeg = z0 := nI_clamp (by omega)
  refine va_copyl C.1.1 C.1.2.1 (C.1.2.2.1.trans hl.1.symm) C.1.2.2.2.1 (hts _ hlk) (hts _ hnat) (hts _ hstat) (hts _ hini) C.2.1 hP hD hS q0 q1 1 1 hq0 hq1 rfl rfl rfl (nI_pos (by omega)) (nI_pos (by omega)) (nI_pos (by omega)) (by rw [e1, e3]; exact h4) (by rw [e2, e3]; exact h5) (fun i _ => rfl) (by rw [hR]; exact hf) (by rw [hR]; exact hlo) d (fun H1 locs1 hP1 hD1 hS1 => ?_)
  rw [e1, e2, e3] at hP1 hD1
  exact k H1 locs1 la ⟨_, hP1, hD1, Hp.set hD hq1 hh⟩ hS1 hl
theorem r_mmax {index : Nat} {x y : Int32} (C : Cx K cc nL own rm ret nm) (hlk : Cond.methodLink own index Lib.Math.max.name ∈ tblG) (hstat : Cond.static Lib.Math.max.name ∈ tblG) (hini : Cond.initialized "java/lang/Math" ∈ tblG) (hco : Cond.code Lib.Math.max.name Lib.Math.max.code 2 (some .int) ∈ tblG) (hf : 1 ≤ rm.frames) (hlo : (st.map fun v => v.category).sum + 13 ≤ rm.locals) (hc : cells ≤ rm.cells) (hs : slots ≤ rm.slots) (d : decode cc pc = .ok (.invokestatic index, 3)) (hn : pc + 3 = n) (k : V K h cells slots Q n ls (.int (if x < y then y else x) :: st)) : V K h cells slots Q pc ls (.int y :: .int x :: st) := by
  subst hn
  intro H locs la hp hS hl
  have hR : KR K = rm := C.2.2.2.1
  have hts := C.1.2.2.2.2
  exact va_mmax C.1.1 C.1.2.1 (C.1.2.2.1.trans hl.1.symm) C.1.2.2.2.1 (hts _ hlk) (hts _ hstat) (hts _ hini) (hts _ hco) (by rw [hR]; exact hf) (by rw [hR]; exact hlo) (by rw [hR]; exact hc) (by rw [hR]; exact hs) d (k H locs la hp hS hl)
theorem r_mmin {index : Nat} {x y : Int32} (C : Cx K cc nL own rm ret nm) (hlk : Cond.methodLink own index Lib.Math.min.name ∈ tblG) (hstat : Cond.static Lib.Math.min.name ∈ tblG) (hini : Cond.initialized "java/lang/Math" ∈ tblG) (hco : Cond.code Lib.Math.min.name Lib.Math.min.code 2 (some .int) ∈ tblG) (hf : 1 ≤ rm.frames) (hlo : (st.map fun v => v.category).sum + 13 ≤ rm.locals) (hc : cells ≤ rm.cells) (hs : slots ≤ rm.slots) (d : decode cc pc = .ok (.invokestatic index, 3)) (hn : pc + 3 = n) (k : V K h cells slots Q n ls (.int (if y < x then y else x) :: st)) : V K h cells slots Q pc ls (.int y :: .int x :: st) := by
  subst hn
  intro H locs la hp hS hl
  have hR : KR K = rm := C.2.2.2.1
  have hts := C.1.2.2.2.2
  exact va_mmin C.1.1 C.1.2.1 (C.1.2.2.1.trans hl.1.symm) C.1.2.2.2.1 (hts _ hlk) (hts _ hstat) (hts _ hini) (hts _ hco) (by rw [hR]; exact hf) (by rw [hR]; exact hlo) (by rw [hR]; exact hc) (by rw [hR]; exact hs) d (k H locs la hp hS hl)
theorem r_iret {v : Int32} {post : Int32 → AH → Prop} {mc ms : Nat} (C : Cx K cc nL own rm (some .int) nm) (d : decode cc pc = .ok (.ireturn, 1)) (hc : cells ≤ mc) (hs : slots ≤ ms) (hq : post v h) : V K h cells slots (EndQ K (QI (Ko K) post) mc ms) pc ls [.int v] := fun H locs la hp hS hl =>
  W.widen hc hs (W.iret C.1.1 C.1.2.1 C.2.2.2.2.1 (fun t ht _ => ⟨⟨v, h, rfl, hq, by show Hp _ _ t.heap; rw [ht]; exact hp⟩, hS.F ht⟩) hS.2.2 d C.2.2.2.2.2.1)
theorem r_lret {v : Int64} {post : Int64 → AH → Prop} {mc ms : Nat} (C : Cx K cc nL own rm (some .long) nm) (d : decode cc pc = .ok (.lreturn, 1)) (hc : cells ≤ mc) (hs : slots ≤ ms) (hq : post v h) : V K h cells slots (EndQ K (QL (Ko K) post) mc ms) pc ls [.long v] := fun H locs la hp hS hl =>
  W.widen hc hs (W.lret C.1.1 C.1.2.1 C.2.2.2.2.1 (fun t ht _ => ⟨⟨v, h, rfl, hq, by show Hp _ _ t.heap; rw [ht]; exact hp⟩, hS.F ht⟩) hS.2.2 d C.2.2.2.2.2.1)
theorem r_dret {v : UInt64} {post : UInt64 → AH → Prop} {mc ms : Nat} (C : Cx K cc nL own rm (some .double) nm) (d : decode cc pc = .ok (.dreturn, 1)) (hc : cells ≤ mc) (hs : slots ≤ ms) (hq : post v h) : V K h cells slots (EndQ K (QD (Ko K) post) mc ms) pc ls [.double v] := fun H locs la hp hS hl =>
  W.widen hc hs (W.dret C.1.1 C.1.2.1 C.2.2.2.2.1 (fun t ht _ => ⟨⟨v, h, rfl, hq, by show Hp _ _ t.heap; rw [ht]; exact hp⟩, hS.F ht⟩) hS.2.2 d C.2.2.2.2.2.1)
theorem r_zret {v : Int32} {post : Int32 → AH → Prop} {mc ms : Nat} (C : Cx K cc nL own rm (some .boolean) nm) (d : decode cc pc = .ok (.ireturn, 1)) (hv : narrow .boolean (.int v) = .int v) (hc : cells ≤ mc) (hs : slots ≤ ms) (hq : post v h) : V K h cells slots (EndQ K (QI (Ko K) post) mc ms) pc ls [.int v] := fun H locs la hp hS hl =>
  W.widen hc hs (W.zret C.1.1 C.1.2.1 C.2.2.2.2.1 hv (fun t ht _ => ⟨⟨v, h, rfl, hq, by show Hp _ _ t.heap; rw [ht]; exact hp⟩, hS.F ht⟩) hS.2.2 d C.2.2.2.2.2.1)
theorem r_vret {post : AH → Prop} {mc ms : Nat} (C : Cx K cc nL own rm none nm) (d : decode cc pc = .ok (.return_, 1)) (hc : cells ≤ mc) (hs : slots ≤ ms) (hq : post h) : V K h cells slots (EndQ K (QV (Ko K) post) mc ms) pc ls [] := fun H locs la hp hS hl =>
  W.widen hc hs (W.vret C.1.1 C.1.2.1 C.2.2.2.2.1 (fun t ht _ => ⟨⟨h, rfl, hq, by show Hp _ _ t.heap; rw [ht]; exact hp⟩, hS.F ht⟩) hS.2.2 d C.2.2.2.2.2.1)
theorem r_aret {v : Nat} {rt : FieldType} {post : AH × Nat → Prop} {mc ms : Nat} (C : Cx K cc nL own rm (some rt) nm) (hrt : (∃ n, rt = .object n) ∨ ∃ t, rt = .array t) (d : decode cc pc = .ok (.areturn, 1)) (hc : cells ≤ mc) (hs : slots ≤ ms) (hq : post (h, v)) : V K h cells slots (EndQ K (QR (Ko K) post) mc ms) pc ls [.ref v] := fun H locs la hp hS hl =>
  W.widen hc hs (W.aret C.1.1 C.1.2.1 C.2.2.2.2.1 hrt (Or.inr ⟨v, rfl⟩) (fun t ht _ => ⟨⟨(h, v), v, rfl, hq, rfl, by show Hp _ _ t.heap; rw [ht]; exact hp⟩, hS.F ht⟩) hS.2.2 d C.2.2.2.2.2.1)
def Rn (K : Kx) (h : AH) (cells slots mc ms pc : Nat) (ls : List (Nat × Value)) (st0 rest : List Value) (Qa : State → Outcome → State → Prop) : Prop :=
  ∀ (H : Heap) (locs : List Loc) (la : Array Slot), Hp (Ko K) h H → va_S (fr (Ko K)) (Ks K).heap H locs → lv_has la (Kn K) ls →
    va_Run (Kp K) (Kl K) (Ke K) (KR K) (Ks K) (Km K) (Ka K) (Kb K) (Kme K) (Kc K) H locs cells slots mc ms (F0 (Km K) pc la st0) rest Qa (fr (Ko K))
def Rn5 (K : Kx) (h : AH) (cells slots mc ms pc : Nat) (ls : List (Nat × Value)) (st0 rest : List Value) (Qa : State → Outcome → State → Prop) : Prop :=
  ∀ (H : Heap) (locs : List Loc) (la : Array Slot), Hp (Ko K) h H → va_S (fr (Ko K)) (Ks K).heap H locs → lv_has la (Kn K) ls →
    va_Run5 (Kp K) (Kl K) (Ke K) (KR K) (Ks K) (Km K) (Ka K) (Kb K) (Kme K) (Kc K) H locs cells slots mc ms (F0 (Km K) pc la st0) rest Qa (fr (Ko K))
theorem PB.blind {o : Om} {avs : List Value} : FrameBlind (va_Pc avs (PB o h)) := fun a U g mk q => by
  obtain ⟨q0, q1, q2, q3, q4⟩ := q
  exact ⟨q0, q1, va_K.moved (u := U) (U := U.calling g mk a) (Vm.Alike.refl U.vm) q2, q3, XN.moved (s := U) (U := U.calling g mk a) (State.WarmedH.refl U) q4⟩
theorem Cx.pre (C : Cx K cc nL own rm ret nm) {H : Heap} {locs : List Loc} (hp : Hp (Ko K) h H) (hS : va_S (fr (Ko K)) (Ks K).heap H locs) (avs : List Value) : ∀ U : State, U.heap = H → (Ks K).WarmedH U.vm → va_Pc avs (PB (Ko K) h) avs.toArray U := fun U hU hW =>
  ⟨rfl, by rw [hU]; exact hp, va_K.moved hW.alike C.2.1, by rw [hU]; exact Nat.le_trans C.2.2.1 hS.1, XN.moved hW C.2.2.2.2.2.2.2.2⟩
theorem Cx.recv (C : Cx K cc nL own rm ret nm) {H : Heap} {b ci : Nat} {fs : List Value} {q : vw_C} (hp : Hp (Ko K) h H) (hb : h b = some (.inr (ci, fs))) (hc : vwCl[ci]? = some q) : ∃ cell : Cell, H[b]? = some cell ∧ cell.vm.isStatics = false ∧ (Ks K).vm.findClass q.1 = some cell.cls := by
  obtain ⟨ws, hP, -, hh⟩ := hp
  obtain ⟨q0, hq⟩ := hh b _ hb
  exact va_recv C.2.1 hP hc hq
section CALL
variable {y : MethodName} {rmc : Room} {Qc : Array Value → State → Outcome → State → Prop} {mc ms z index maxL ci b N : Nat} {As rest st0 : List Value} {bytes : ByteArray} {rt : Option FieldType} {Cn host : String} {fs : List Value} {T : u_T}
theorem rn_V (C : Cx K cc nL own rm ret nm) (hM : Mt (Kl K) (Ko K) y bytes maxL rt rmc (.ref b :: As) h Qc mc ms) (hlk : Cond.methodLink own index y ∈ tblG) (hinm : Cond.instanceMethod y ∈ tblG) (hsel : Cond.selects Cn y y ∈ tblG) (hini : Cond.initialized Cn ∈ tblG) (hco : Cond.code y bytes maxL rt ∈ tblG) (hrc : rmc.cells = mc) (hrs : rmc.slots = ms) (hd : y.cls = Cn ∧ y.cls ≠ "java/lang/invoke/MethodHandle" ∧ y.cls ≠ "java/lang/invoke/VarHandle" ∧ (parseMethodDescriptor y.desc).map (fun d => d.parameters.length) = some z) (hR : rmc.frames + 1 ≤ rm.frames ∧ 8 + (maxL + 11) + rmc.locals ≤ rm.locals) (hb : h b = some (.inr (ci, fs))) (hc : vwCl[ci]? = some (Cn, T, N)) (hz : As.length = z) (hst : st0 = As.reverse ++ .ref b :: rest) (hro : (rest.map fun v => v.category).sum ≤ 8) (d : decode cc pc = .ok (.invokevirtual index, 3)) (hf : cells + mc ≤ rm.cells ∧ slots + ms ≤ rm.slots) : Rn K h cells slots mc ms pc ls st0 rest (Qc (Value.ref b :: As).toArray) := by
  intro H locs la hp hS hl
  have hR0 : KR K = rm := C.2.2.2.1
  have hts := C.1.2.2.2.2
  exact va_runV C.1 hM (cwV z hts (good_of (mem4 hlk hinm hsel hini (good_code hco))) rfl hrc hrs hd (by rw [hR0]; exact hR)) ⟨PB.blind, C.recv hp hb hc, C.pre hp hS _⟩ rfl hz hl.1 hst (lv_room hro) d (by rw [hR0]; exact hf)
theorem rn_S (C : Cx K cc nL own rm ret nm) (hM : Mt (Kl K) (Ko K) y bytes maxL rt rmc (As) h Qc mc ms) (hlk : Cond.methodLink own index y ∈ tblG) (hstm : Cond.static y ∈ tblG) (hini : Cond.initialized y.cls ∈ tblG) (hco : Cond.code y bytes maxL rt ∈ tblG) (hrc : rmc.cells = mc) (hrs : rmc.slots = ms) (hd : y.cls ≠ "java/lang/invoke/MethodHandle" ∧ y.cls ≠ "java/lang/invoke/VarHandle" ∧ (parseMethodDescriptor y.desc).map (fun d => d.parameters.length) = some z) (hR : rmc.frames + 1 ≤ rm.frames ∧ 8 + (maxL + 11) + rmc.locals ≤ rm.locals)  (hz : As.length = z) (hst : st0 = As.reverse ++ rest) (hro : (rest.map fun v => v.category).sum ≤ 8) (d : decode cc pc = .ok (.invokestatic index, 3)) (hf : cells + mc ≤ rm.cells ∧ slots + ms ≤ rm.slots) : Rn K h cells slots mc ms pc ls st0 rest (Qc (As).toArray) := by
  intro H locs la hp hS hl
  have hR0 : KR K = rm := C.2.2.2.1
  have hts := C.1.2.2.2.2
  exact va_runS C.1 hM (va_cwS z hts (good_of (mem3 hlk hstm hini (good_code hco))) rfl hrc hrs hd (by rw [hR0]; exact hR)) ⟨PB.blind, C.pre hp hS _⟩ rfl hz hl.1 hst (lv_room hro) d (by rw [hR0]; exact hf)
theorem rn_I (C : Cx K cc nL own rm ret nm) (hM : Mt (Kl K) (Ko K) y bytes maxL none rmc (.ref b :: As) h Qc mc ms) (hlk : Cond.methodLink own index y ∈ tblG) (hinm : Cond.instanceMethod y ∈ tblG) (hini : Cond.initialized y.cls ∈ tblG) (hnm : y.name = "<init>") (hco : Cond.code y bytes maxL none ∈ tblG) (hrc : rmc.cells = mc) (hrs : rmc.slots = ms) (hd : y.cls ≠ "java/lang/invoke/MethodHandle" ∧ y.cls ≠ "java/lang/invoke/VarHandle" ∧ (parseMethodDescriptor y.desc).map (fun d => d.parameters.length) = some z) (hR : rmc.frames + 1 ≤ rm.frames ∧ 8 + (maxL + 11) + rmc.locals ≤ rm.locals)  (hz : As.length = z) (hst : st0 = As.reverse ++ .ref b :: rest) (hro : (rest.map fun v => v.category).sum ≤ 8) (d : decode cc pc = .ok (.invokespecial index, 3)) (hf : cells + mc ≤ rm.cells ∧ slots + ms ≤ rm.slots) : Rn K h cells slots mc ms pc ls st0 rest (Qc (Value.ref b :: As).toArray) := by
  intro H locs la hp hS hl
  have hR0 : KR K = rm := C.2.2.2.1
  have hts := C.1.2.2.2.2
  exact va_runI C.1 hM (cwI z hts (good_of (good_code hco)) rfl hrc hrs (hts _ hini) (hts _ hlk) (hts _ hinm) hnm hd (by rw [hR0]; exact hR)) ⟨PB.blind, C.pre hp hS _⟩ rfl hz hl.1 hst (lv_room hro) d (by rw [hR0]; exact hf)
theorem rn_IN (C : Cx K cc nL own rm ret nm) (hM : Mt (Kl K) (Ko K) y bytes maxL none rmc (.ref b :: As) h Qc mc ms) (hlk : (index, y) ∈ nestL) (ho : own = "DeltaViews") (hinm : Cond.instanceMethod y ∈ tblG) (hini : Cond.initialized y.cls ∈ tblG) (hnm : y.name = "<init>") (hco : Cond.code y bytes maxL none ∈ tblG) (hrc : rmc.cells = mc) (hrs : rmc.slots = ms) (hd : y.cls ≠ "java/lang/invoke/MethodHandle" ∧ y.cls ≠ "java/lang/invoke/VarHandle" ∧ (parseMethodDescriptor y.desc).map (fun d => d.parameters.length) = some z) (hR : rmc.frames + 1 ≤ rm.frames ∧ 8 + (maxL + 11) + rmc.locals ≤ rm.locals)  (hz : As.length = z) (hst : st0 = As.reverse ++ .ref b :: rest) (hro : (rest.map fun v => v.category).sum ≤ 8) (d : decode cc pc = .ok (.invokespecial index, 3)) (hf : cells + mc ≤ rm.cells ∧ slots + ms ≤ rm.slots) : Rn K h cells slots mc ms pc ls st0 rest (Qc (Value.ref b :: As).toArray) := by
  intro H locs la hp hS hl
  have hR0 : KR K = rm := C.2.2.2.1
  have hts := C.1.2.2.2.2
  exact va_runIN C.1 hM ⟨va_cnB z hts (good_of (good_code hco)) rfl hrc hrs (by rw [ho]; exact C.2.2.2.2.2.2.2.2.2.2.1 _ hlk) (hts _ hini) hd (by rw [hR0]; exact hR), hnm, hts _ hinm⟩ ⟨PB.blind, C.pre hp hS _⟩ rfl hz hl.1 hst (lv_room hro) d (by rw [hR0]; exact hf)
theorem rn_F {count : Nat} (C : Cx K cc nL own rm ret nm) (hM : Mt (Kl K) (Ko K) y bytes maxL rt rmc (.ref b :: As) h Qc mc ms) (hlk : Cond.methodLink own index yRU_fill ∈ tblG) (hsel : Cond.selects Cn yRU_fill y ∈ tblG) (hinm : Cond.instanceMethod y ∈ tblG) (hini : Cond.initialized y.cls ∈ tblG) (hco : Cond.code y bytes maxL rt ∈ tblG) (hrc : rmc.cells = mc) (hrs : rmc.slots = ms) (f1 : (Cn, y) ∈ faceL) (hd : yRU_fill.cls ≠ "java/lang/invoke/MethodHandle" ∧ yRU_fill.cls ≠ "java/lang/invoke/VarHandle" ∧ (parseMethodDescriptor yRU_fill.desc).map (fun d => d.parameters.length) = some z) (hR : rmc.frames + 1 ≤ rm.frames ∧ 8 + (maxL + 11) + rmc.locals ≤ rm.locals) (hb : h b = some (.inr (ci, fs))) (hc : vwCl[ci]? = some (Cn, T, N)) (hz : As.length = z) (hst : st0 = As.reverse ++ .ref b :: rest) (hro : (rest.map fun v => v.category).sum ≤ 8) (d : decode cc pc = .ok (.invokeinterface index count, 5)) (hf : cells + mc ≤ rm.cells ∧ slots + ms ≤ rm.slots) : Rn5 K h cells slots mc ms pc ls st0 rest (Qc (Value.ref b :: As).toArray) := by
  intro H locs la hp hS hl
  have hR0 : KR K = rm := C.2.2.2.1
  have hts := C.1.2.2.2.2
  exact va_runF (C.2.1.1 ci _ hc).2 C.1 hM (va_cwF z hts (good_of (mem4 hlk hsel hinm hini (good_code hco))) rfl hrc hrs (C.2.2.2.2.2.2.2.2.2.2.2 (Cn, y) f1) hd (by rw [hR0]; exact hR)) ⟨PB.blind, C.recv hp hb hc, C.pre hp hS _⟩ rfl hz hl.1 hst (lv_room hro) d (by rw [hR0]; exact hf)
theorem r_ci {post : Int32 → AH → Prop} {a : Array Value} (hr : Rn K h cells slots mc ms pc ls st0 rest (QI (Ko K) post a)) (hn : pc + 3 = n) (k : ∀ (r : Int32) (h' : AH), post r h' → V K h' (cells + mc) (slots + ms) Q n ls (.int r :: rest)) : V K h cells slots Q pc ls st0 := by
  subst hn
  exact fun H locs la hp hS hl => va_calli (hr H locs la hp hS hl) hS (fun _ _ hq => hq) (fun _ hq => hq) (fun r h' t H1 locs1 ht _ hq hB _ _ hS1 => k r h' hq H1 locs1 la (by rw [← ht]; exact hB) hS1 hl)
theorem r_cl {post : Int64 → AH → Prop} {a : Array Value} (hr : Rn K h cells slots mc ms pc ls st0 rest (QL (Ko K) post a)) (hn : pc + 3 = n) (k : ∀ (r : Int64) (h' : AH), post r h' → V K h' (cells + mc) (slots + ms) Q n ls (.long r :: rest)) : V K h cells slots Q pc ls st0 := by
  subst hn
  exact fun H locs la hp hS hl => va_calll (hr H locs la hp hS hl) hS (fun _ _ hq => hq) (fun _ hq => hq) (fun r h' t H1 locs1 ht _ hq hB _ _ hS1 => k r h' hq H1 locs1 la (by rw [← ht]; exact hB) hS1 hl)
theorem r_cd {post : UInt64 → AH → Prop} {a : Array Value} (hr : Rn K h cells slots mc ms pc ls st0 rest (QD (Ko K) post a)) (hn : pc + 3 = n) (k : ∀ (r : UInt64) (h' : AH), post r h' → V K h' (cells + mc) (slots + ms) Q n ls (.double r :: rest)) : V K h cells slots Q pc ls st0 := by
  subst hn
  exact fun H locs la hp hS hl => va_calld (hr H locs la hp hS hl) hS (fun _ _ hq => hq) (fun _ hq => hq) (fun r h' t H1 locs1 ht _ hq hB _ _ hS1 => k r h' hq H1 locs1 la (by rw [← ht]; exact hB) hS1 hl)
theorem r_cv {post : AH → Prop} {a : Array Value} (hr : Rn K h cells slots mc ms pc ls st0 rest (QV (Ko K) post a)) (hn : pc + 3 = n) (k : ∀ (h' : AH), post h' → V K h' (cells + mc) (slots + ms) Q n ls rest) : V K h cells slots Q pc ls st0 := by
  subst hn
  exact fun H locs la hp hS hl => va_callv (hr H locs la hp hS hl) hS (fun _ _ hq => hq) (fun _ hq => hq) (fun h' t H1 locs1 ht _ hq hB _ _ hS1 => k h' hq H1 locs1 la (by rw [← ht]; exact hB) hS1 hl)
theorem r_cFi {post : Int32 → AH → Prop} {a : Array Value} (hr : Rn5 K h cells slots mc ms pc ls st0 rest (QI (Ko K) post a)) (hn : pc + 5 = n) (k : ∀ (r : Int32) (h' : AH), post r h' → V K h' (cells + mc) (slots + ms) Q n ls (.int r :: rest)) : V K h cells slots Q pc ls st0 := by
  subst hn
  exact fun H locs la hp hS hl => va_callFi (hr H locs la hp hS hl) hS (fun _ _ hq => hq) (fun _ hq => hq) (fun r h' t H1 locs1 ht _ hq hB _ _ hS1 => k r h' hq H1 locs1 la (by rw [← ht]; exact hB) hS1 hl)
theorem r_cFl {post : Int64 → AH → Prop} {a : Array Value} (hr : Rn5 K h cells slots mc ms pc ls st0 rest (QL (Ko K) post a)) (hn : pc + 5 = n) (k : ∀ (r : Int64) (h' : AH), post r h' → V K h' (cells + mc) (slots + ms) Q n ls (.long r :: rest)) : V K h cells slots Q pc ls st0 := by
  subst hn
  exact fun H locs la hp hS hl => va_callFl (hr H locs la hp hS hl) hS (fun _ _ hq => hq) (fun _ hq => hq) (fun r h' t H1 locs1 ht _ hq hB _ _ hS1 => k r h' hq H1 locs1 la (by rw [← ht]; exact hB) hS1 hl)
theorem r_cFd {post : UInt64 → AH → Prop} {a : Array Value} (hr : Rn5 K h cells slots mc ms pc ls st0 rest (QD (Ko K) post a)) (hn : pc + 5 = n) (k : ∀ (r : UInt64) (h' : AH), post r h' → V K h' (cells + mc) (slots + ms) Q n ls (.double r :: rest)) : V K h cells slots Q pc ls st0 := by
  subst hn
  exact fun H locs la hp hS hl => va_callFd (hr H locs la hp hS hl) hS (fun _ _ hq => hq) (fun _ hq => hq) (fun r h' t H1 locs1 ht _ hq hB _ _ hS1 => k r h' hq H1 locs1 la (by rw [← ht]; exact hB) hS1 hl)
theorem r_cFv {post : AH → Prop} {a : Array Value} (hr : Rn5 K h cells slots mc ms pc ls st0 rest (QV (Ko K) post a)) (hn : pc + 5 = n) (k : ∀ (h' : AH), post h' → V K h' (cells + mc) (slots + ms) Q n ls rest) : V K h cells slots Q pc ls st0 := by
  subst hn
  exact fun H locs la hp hS hl => va_callFv (hr H locs la hp hS hl) hS (fun _ _ hq => hq) (fun _ hq => hq) (fun h' t H1 locs1 ht _ hq hB _ _ hS1 => k h' hq H1 locs1 la (by rw [← ht]; exact hB) hS1 hl)
theorem r_cr {post : AH × Nat → Prop} {a : Array Value} (hr : Rn K h cells slots mc ms pc ls st0 rest (QR (Ko K) post a)) (hn : pc + 3 = n) (k : ∀ (h' : AH) (v : Nat), post (h', v) → V K h' (cells + mc) (slots + ms) Q n ls (.ref v :: rest)) : V K h cells slots Q pc ls st0 := by
  subst hn
  exact fun H locs la hp hS hl => va_callr (hr H locs la hp hS hl) hS (fun _ _ hq => hq) (fun _ hq => hq) (fun u v t H1 locs1 ht _ hq hB _ _ hS1 => by
    obtain ⟨h', v'⟩ := u
    obtain ⟨e1, e2⟩ := hB
    have e1 : v' = v := e1
    subst e1
    exact k h' v' hq H1 locs1 la (by rw [← ht]; exact e2) hS1 hl)
end CALL
end XK
end
section
/-! PURE: rows, keys, sorted lists with weights -/
abbrev Ky : Type := Int32 × Int32 × Int32
abbrev Rw : Type := Ky × Int64
def kz (k : Ky) : Int := (k.1.toInt * 4294967296 + k.2.1.toInt) * 4294967296 + k.2.2.toInt
theorem i32_lo (x : Int32) : -2147483648 ≤ x.toInt := by have := Int32.le_toInt x; simpa using this
theorem i32_hi (x : Int32) : x.toInt < 2147483648 := by have := Int32.toInt_lt x; simpa using this
theorem kz_inj {x y : Ky} (h : kz x = kz y) : x = y := by
  obtain ⟨a, b, c⟩ := x
  obtain ⟨a', b', c'⟩ := y
  simp only [kz] at h
  have h1 := i32_lo a; have h2 := i32_hi a; have h3 := i32_lo b; have h4 := i32_hi b; have h5 := i32_lo c; have h6 := i32_hi c
  have g1 := i32_lo a'; have g2 := i32_hi a'; have g3 := i32_lo b'; have g4 := i32_hi b'; have g5 := i32_lo c'; have g6 := i32_hi c'
  have e1 : a.toInt = a'.toInt := by omega
  have e2 : b.toInt = b'.toInt := by omega
  have e3 : c.toInt = c'.toInt := by omega
  rw [Int32.toInt_inj.mp e1, Int32.toInt_inj.mp e2, Int32.toInt_inj.mp e3]
theorem kz_lt {a b c a' b' c' : Int32} : kz (a, b, c) < kz (a', b', c') ↔ a < a' ∨ (a = a' ∧ (b < b' ∨ (b = b' ∧ c < c'))) := by
  simp only [kz, Int32.lt_iff_toInt_lt, ← Int32.toInt_inj]
  have h1 := i32_lo a; have h2 := i32_hi a; have h3 := i32_lo b; have h4 := i32_hi b; have h5 := i32_lo c; have h6 := i32_hi c
  have g1 := i32_lo a'; have g2 := i32_hi a'; have g3 := i32_lo b'; have g4 := i32_hi b'; have g5 := i32_lo c'; have g6 := i32_hi c'
  constructor
  · intro h; omega
  · intro h; omega
def Srt (L : List Rw) : Prop := L.Pairwise (fun x y => kz x.1 < kz y.1)
def wt : List Rw → Ky → Int64
  | [], _ => 0
  | r :: L, k => if r.1 = k then r.2 else wt L k
def addW : List Rw → Ky → Int64 → List Rw
  | [], k, w => [(k, w)]
  | r :: L, k, w => if kz k < kz r.1 then (k, w) :: r :: L else if r.1 = k then (k, r.2 + w) :: L else r :: addW L k w
theorem wt_lt {L : List Rw} {k : Ky} (h : ∀ r ∈ L, kz k < kz r.1) : wt L k = 0 := by
  induction L with
  | nil => rfl
  | cons r L ih =>
    have h1 := h r List.mem_cons_self
    have h2 : ¬ r.1 = k := fun e => by rw [e] at h1; omega
    simp only [wt, if_neg h2]
    exact ih (fun q hq => h q (List.mem_cons_of_mem _ hq))
theorem addW_mem {L : List Rw} {k : Ky} {w : Int64} : ∀ r ∈ addW L k w, r.1 = k ∨ ∃ q ∈ L, q.1 = r.1 := by
  induction L with
  | nil =>
    intro r hr
    simp only [addW, List.mem_singleton] at hr
    exact Or.inl (by rw [hr])
  | cons q L ih =>
    intro r hr
    simp only [addW] at hr
    split at hr
    · rcases List.mem_cons.mp hr with e | e
      · exact Or.inl (by rw [e])
      · exact Or.inr ⟨r, e, rfl⟩
    · split at hr
      · rcases List.mem_cons.mp hr with e | e
        · exact Or.inl (by rw [e])
        · exact Or.inr ⟨r, List.mem_cons_of_mem _ e, rfl⟩
      · rcases List.mem_cons.mp hr with e | e
        · exact Or.inr ⟨q, List.mem_cons_self, by rw [e]⟩
        · rcases ih r e with h | ⟨q', h1, h2⟩
          · exact Or.inl h
          · exact Or.inr ⟨q', List.mem_cons_of_mem _ h1, h2⟩
theorem addW_srt {L : List Rw} (k : Ky) (w : Int64) (h : Srt L) : Srt (addW L k w) := by
  induction L with
  | nil => exact List.pairwise_singleton _ _
  | cons q L ih =>
    obtain ⟨h1, h2⟩ := List.pairwise_cons.mp h
    simp only [addW]
    split
    · next hk =>
      refine List.pairwise_cons.mpr ⟨fun r hr => ?_, h⟩
      rcases List.mem_cons.mp hr with e | e
      · rw [e]; exact hk
      · exact Int.lt_trans hk (h1 r e)
    · next hk =>
      split
      · next he =>
        refine List.pairwise_cons.mpr ⟨fun r hr => ?_, h2⟩
        have := h1 r hr
        rw [he] at this
        exact this
      · next he =>
        refine List.pairwise_cons.mpr ⟨fun r hr => ?_, ih h2⟩
        rcases addW_mem r hr with e | ⟨q', e1, e2⟩
        · rw [e]
          have : kz q.1 ≠ kz k := fun z => he (kz_inj z)
          omega
        · rw [← e2]; exact h1 q' e1
theorem addW_wt {L : List Rw} (k : Ky) (w : Int64) (h : Srt L) (k' : Ky) : wt (addW L k w) k' = wt L k' + (if k' = k then w else 0) := by
  induction L with
  | nil =>
    simp only [addW, wt]
    by_cases e : k = k'
    · simp [e]
    · simp [e, Ne.symm e]
  | cons q L ih =>
    obtain ⟨h1, h2⟩ := List.pairwise_cons.mp h
    simp only [addW]
    split
    · next hk =>
      by_cases e : k = k'
      · subst e
        have hz : wt (q :: L) k = 0 := wt_lt (fun r hr => by
          rcases List.mem_cons.mp hr with e | e
          · rw [e]; exact hk
          · exact Int.lt_trans hk (h1 r e))
        rw [hz]
        simp [wt]
      · simp [wt, e, Ne.symm e]
    · next hk =>
      split
      · next he =>
        by_cases e : k = k'
        · subst e; simp [wt, he]
        · have : ¬ q.1 = k' := by rw [he]; exact e
          simp [wt, e, Ne.symm e, this]
      · next he =>
        by_cases e : q.1 = k'
        · have : ¬ k' = k := fun z => he (e.trans z)
          simp [wt, e, this]
        · simp only [wt, if_neg e]
          exact ih h2
theorem addW_len {L : List Rw} (k : Ky) (w : Int64) : (addW L k w).length ≤ L.length + 1 := by
  induction L with
  | nil => simp [addW]
  | cons q L ih =>
    simp only [addW]
    split
    · simp
    · split
      · simp
      · simp only [List.length_cons]; omega
/-- rows whose weight isn't 0 -/
def nz (L : List Rw) : List Rw := L.filter (fun r => decide (r.2 ≠ 0))
theorem nz_srt {L : List Rw} (h : Srt L) : Srt (nz L) := List.Pairwise.filter _ h
theorem nz_mem {L : List Rw} {r : Rw} : r ∈ nz L ↔ r ∈ L ∧ r.2 ≠ 0 := by simp [nz]
theorem nz_wt {L : List Rw} (h : Srt L) (k : Ky) : wt (nz L) k = wt L k := by
  induction L with
  | nil => rfl
  | cons q L ih =>
    obtain ⟨h1, h2⟩ := List.pairwise_cons.mp h
    have ih := ih h2
    by_cases hq : q.2 = 0
    · have e : nz (q :: L) = nz L := by simp [nz, hq]
      rw [e, ih]
      by_cases hk : q.1 = k
      · simp only [wt, if_pos hk, hq]
        exact wt_lt (fun r hr => by rw [← hk]; exact h1 r hr)
      · simp [wt, hk]
    · have e : nz (q :: L) = q :: nz L := by simp [nz, hq]
      rw [e]
      simp only [wt, ih]
theorem nz_nz {L : List Rw} (h : ∀ r ∈ L, r.2 ≠ 0) : nz L = L := List.filter_eq_self.mpr (fun r hr => by simpa using h r hr)
theorem wt_mem {L : List Rw} (h : Srt L) {r : Rw} (hr : r ∈ L) : wt L r.1 = r.2 := by
  induction L with
  | nil => cases hr
  | cons q L ih =>
    obtain ⟨h1, h2⟩ := List.pairwise_cons.mp h
    rcases List.mem_cons.mp hr with e | e
    · subst e; simp [wt]
    · have hlt := h1 r e
      have : ¬ q.1 = r.1 := fun z => by rw [z] at hlt; omega
      simp only [wt, if_neg this]
      exact ih h2 e
theorem wt_none {L : List Rw} {k : Ky} (h : ∀ r ∈ L, r.1 ≠ k) : wt L k = 0 := by
  induction L with
  | nil => rfl
  | cons q L ih =>
    simp only [wt, if_neg (h q List.mem_cons_self)]
    exact ih (fun r hr => h r (List.mem_cons_of_mem _ hr))
theorem mem_of_wt {L : List Rw} {k : Ky} (h : wt L k ≠ 0) : (k, wt L k) ∈ L := by
  induction L with
  | nil => exact absurd rfl h
  | cons q L ih =>
    by_cases e : q.1 = k
    · have : wt (q :: L) k = q.2 := by simp [wt, e]
      rw [this, ← e]
      exact List.mem_cons_self
    · have : wt (q :: L) k = wt L k := by simp [wt, e]
      rw [this] at h ⊢
      exact List.mem_cons_of_mem _ (ih h)
/-- sorted lists without zeros are told by their weights -/
theorem eq_of_wt {L M : List Rw} (hL : Srt L) (hM : Srt M) (zL : ∀ r ∈ L, r.2 ≠ 0) (zM : ∀ r ∈ M, r.2 ≠ 0) (e : ∀ k, wt L k = wt M k) : L = M := by
  have sub : ∀ {A B : List Rw}, Srt A → (∀ r ∈ A, r.2 ≠ 0) → (∀ k, wt A k = wt B k) → ∀ r ∈ A, r ∈ B := by
    intro A B hA zA hAB r hr
    have h1 := wt_mem hA hr
    have h2 := hAB r.1
    have h3 : wt B r.1 ≠ 0 := by rw [← h2, h1]; exact zA r hr
    have h4 := mem_of_wt h3
    rw [← h2, h1] at h4
    exact h4
  have s1 := sub hL zL e
  have s2 := sub hM zM (fun k => (e k).symm)
  clear sub zL zM e
  induction L generalizing M with
  | nil =>
    cases M with
    | nil => rfl
    | cons q M => exact absurd (s2 q List.mem_cons_self) List.not_mem_nil
  | cons p L ih =>
    cases M with
    | nil => exact absurd (s1 p List.mem_cons_self) List.not_mem_nil
    | cons q M =>
      obtain ⟨a1, a2⟩ := List.pairwise_cons.mp hL
      obtain ⟨b1, b2⟩ := List.pairwise_cons.mp hM
      have hpq : p = q := by
        rcases List.mem_cons.mp (s1 p List.mem_cons_self) with h | h
        · exact h
        · rcases List.mem_cons.mp (s2 q List.mem_cons_self) with h' | h'
          · exact h'.symm
          · have := b1 p h
            have := a1 q h'
            omega
      subst hpq
      congr 1
      refine ih a2 b2 (fun r hr => ?_) (fun r hr => ?_)
      · rcases List.mem_cons.mp (s1 r (List.mem_cons_of_mem _ hr)) with h | h
        · have := a1 r hr
          rw [h] at this
          omega
        · exact h
      · rcases List.mem_cons.mp (s2 r (List.mem_cons_of_mem _ hr)) with h | h
        · have := b1 r hr
          rw [h] at this
          omega
        · exact h
/-- p is the place of the first row that doesn't come before k -/
def PlaceP (L : List Rw) (k : Ky) (p : Nat) : Prop := p ≤ L.length ∧ (∀ (i : Nat) (r : Rw), i < p → L[i]? = some r → kz r.1 < kz k) ∧ (∀ (i : Nat) (r : Rw), p ≤ i → L[i]? = some r → kz k ≤ kz r.1)
theorem PlaceP.tail {r : Rw} {L : List Rw} {k : Ky} {p : Nat} (h : PlaceP (r :: L) k (p + 1)) : kz r.1 < kz k ∧ PlaceP L k p := by
  obtain ⟨h1, h2, h3⟩ := h
  refine ⟨h2 0 r (Nat.succ_pos p) rfl, by simpa using h1, fun i q hi hq => h2 (i + 1) q (by omega) (by simpa using hq), fun i q hi hq => h3 (i + 1) q (by omega) (by simpa using hq)⟩
theorem addW_at {L : List Rw} {k : Ky} {p : Nat} {r : Rw} (w : Int64) (h : PlaceP L k p) (hr : L[p]? = some r) (hk : r.1 = k) : addW L k w = L.set p (k, r.2 + w) := by
  induction L generalizing p with
  | nil => simp at hr
  | cons q L ih =>
    cases p with
    | zero =>
      simp only [List.getElem?_cons_zero, Option.some.injEq] at hr
      subst hr
      have : ¬ kz k < kz q.1 := by rw [hk]; omega
      simp [addW, this, hk]
    | succ p =>
      obtain ⟨h1, h2⟩ := h.tail
      have n1 : ¬ kz k < kz q.1 := by omega
      have n2 : ¬ q.1 = k := fun e => by rw [e] at h1; omega
      simp only [addW, if_neg n1, if_neg n2, List.set_cons_succ]
      rw [ih h2 (by simpa using hr)]
theorem addW_in {L : List Rw} {k : Ky} {p : Nat} (w : Int64) (h : PlaceP L k p) (hk : ∀ r, L[p]? = some r → r.1 ≠ k) : addW L k w = L.take p ++ (k, w) :: L.drop p := by
  induction L generalizing p with
  | nil =>
    have : p = 0 := by have := h.1; simpa using this
    subst this
    rfl
  | cons q L ih =>
    cases p with
    | zero =>
      have h1 := h.2.2 0 q (Nat.le_refl 0) rfl
      have h2 := hk q rfl
      have h3 : kz k ≠ kz q.1 := fun e => h2 (kz_inj e).symm
      have : kz k < kz q.1 := by omega
      simp [addW, this]
    | succ p =>
      obtain ⟨h1, h2⟩ := h.tail
      have n1 : ¬ kz k < kz q.1 := by omega
      have n2 : ¬ q.1 = k := fun e => by rw [e] at h1; omega
      simp only [addW, if_neg n1, if_neg n2, List.take_succ_cons, List.drop_succ_cons, List.cons_append]
      rw [ih h2 (fun r hr => hk r (by simpa using hr))]
theorem wt_at {L : List Rw} {k : Ky} {p : Nat} {r : Rw} (h : PlaceP L k p) (hr : L[p]? = some r) (hk : r.1 = k) : wt L k = r.2 := by
  induction L generalizing p with
  | nil => simp at hr
  | cons q L ih =>
    cases p with
    | zero =>
      simp only [List.getElem?_cons_zero, Option.some.injEq] at hr
      subst hr
      simp [wt, hk]
    | succ p =>
      obtain ⟨h1, h2⟩ := h.tail
      have n2 : ¬ q.1 = k := fun e => by rw [e] at h1; omega
      simp only [wt, if_neg n2]
      exact ih h2 (by simpa using hr)
theorem wt_not {L : List Rw} {k : Ky} {p : Nat} (hs : Srt L) (h : PlaceP L k p) (hk : ∀ r, L[p]? = some r → r.1 ≠ k) : wt L k = 0 := by
  induction L generalizing p with
  | nil => rfl
  | cons q L ih =>
    obtain ⟨s1, s2⟩ := List.pairwise_cons.mp hs
    cases p with
    | zero =>
      have h1 := h.2.2 0 q (Nat.le_refl 0) rfl
      have h2 := hk q rfl
      have h3 : kz k ≠ kz q.1 := fun e => h2 (kz_inj e).symm
      refine wt_lt (fun r hr => ?_)
      rcases List.mem_cons.mp hr with e | e
      · rw [e]; omega
      · have := s1 r e; omega
    | succ p =>
      obtain ⟨h1, h2⟩ := h.tail
      have n2 : ¬ q.1 = k := fun e => by rw [e] at h1; omega
      simp only [wt, if_neg n2]
      exact ih s2 h2 (fun r hr => hk r (by simpa using hr))
/-- in a sorted list what stands before is smaller -/
theorem srt_get {L : List Rw} (h : Srt L) {i j : Nat} {x y : Rw} (hij : i < j) (hx : L[i]? = some x) (hy : L[j]? = some y) : kz x.1 < kz y.1 := by
  obtain ⟨h1, e1⟩ := List.getElem?_eq_some_iff.mp hx
  obtain ⟨h2, e2⟩ := List.getElem?_eq_some_iff.mp hy
  have := List.pairwise_iff_getElem.mp h i j h1 h2 hij
  rw [e1, e2] at this
  exact this
end
section
/-! how a list of rows lies in an array of ints (three to a row) and an array of longs -/
def EncA (f : Nat → Int32) (g : Nat → Int64) (i : Nat) (r : Rw) : Prop := f (i * 3) = r.1.1 ∧ f (i * 3 + 1) = r.1.2.1 ∧ f (i * 3 + 2) = r.1.2.2 ∧ g i = r.2
def Enc (f : Nat → Int32) (g : Nat → Int64) (L : List Rw) : Prop := ∀ (i : Nat) (r : Rw), L[i]? = some r → EncA f g i r
theorem Enc_nil (f : Nat → Int32) (g : Nat → Int64) : Enc f g [] := fun i r h => by simp at h
theorem Enc_set {f : Nat → Int32} {g : Nat → Int64} {L : List Rw} (h : Enc f g L) {p : Nat} {r : Rw} (hp : L[p]? = some r) (w : Int64) : Enc f (vp_updL g p w) (L.set p (r.1, w)) := by
  intro i q hq
  have hl := (List.getElem?_eq_some_iff.mp hp).1
  by_cases e : i = p
  · subst e
    rw [List.getElem?_set_self hl] at hq
    cases hq
    obtain ⟨e1, e2, e3, e4⟩ := h i r hp
    exact ⟨e1, e2, e3, pk_uLs⟩
  · rw [List.getElem?_set_ne (Ne.symm e)] at hq
    obtain ⟨e1, e2, e3, e4⟩ := h i q hq
    exact ⟨e1, e2, e3, by rw [pk_uLn e]; exact e4⟩
theorem Enc_ins {f : Nat → Int32} {g : Nat → Int64} {L : List Rw} (h : Enc f g L) {p : Nat} (hp : p ≤ L.length) (a b c : Int32) (w : Int64) : Enc (upd (upd (upd (va_cpy f f (p * 3) (p * 3 + 3) ((L.length - p) * 3)) (p * 3) a) (p * 3 + 1) b) (p * 3 + 2) c) (vp_updL (va_cpy g g p (p + 1) (L.length - p)) p w) (L.take p ++ ((a, b, c), w) :: L.drop p) := by
  intro i r hr
  have hlt : (L.take p).length = p := by rw [List.length_take]; omega
  rcases Nat.lt_trichotomy i p with hi | hi | hi
  · have e : L[i]? = some r := by
      rw [List.getElem?_append_left (by omega), List.getElem?_take_of_lt hi] at hr
      exact hr
    obtain ⟨e1, e2, e3, e4⟩ := h i r e
    refine ⟨?_, ?_, ?_, ?_⟩
    · rw [pk_un (by omega), pk_un (by omega), pk_un (by omega), pk_cpy_out (Or.inl (by omega))]; exact e1
    · rw [pk_un (by omega), pk_un (by omega), pk_un (by omega), pk_cpy_out (Or.inl (by omega))]; exact e2
    · rw [pk_un (by omega), pk_un (by omega), pk_un (by omega), pk_cpy_out (Or.inl (by omega))]; exact e3
    · rw [pk_uLn (by omega), pk_cpy_out (Or.inl (by omega))]; exact e4
  · subst hi
    rw [List.getElem?_append_right (by omega), hlt, Nat.sub_self, List.getElem?_cons_zero] at hr
    cases hr
    refine ⟨?_, ?_, ?_, ?_⟩
    · rw [pk_un (by omega), pk_un (by omega), pk_us]
    · rw [pk_un (by omega), pk_us]
    · rw [pk_us]
    · rw [pk_uLs]
  · obtain ⟨j, rfl⟩ : ∃ j, i = p + 1 + j := ⟨i - p - 1, by omega⟩
    rw [List.getElem?_append_right (by omega), hlt, show p + 1 + j - p = j + 1 by omega, List.getElem?_cons_succ, List.getElem?_drop] at hr
    have hl := (List.getElem?_eq_some_iff.mp hr).1
    obtain ⟨e1, e2, e3, e4⟩ := h _ r hr
    refine ⟨?_, ?_, ?_, ?_⟩
    · rw [pk_un (by omega), pk_un (by omega), pk_un (by omega), pk_cpy_in (by omega) (by omega), ← e1]; congr 1; omega
    · rw [pk_un (by omega), pk_un (by omega), pk_un (by omega), pk_cpy_in (by omega) (by omega), ← e2]; congr 1; omega
    · rw [pk_un (by omega), pk_un (by omega), pk_un (by omega), pk_cpy_in (by omega) (by omega), ← e3]; congr 1; omega
    · rw [pk_uLn (by omega), pk_cpy_in (by omega) (by omega), ← e4]; congr 1; omega
theorem Enc_copy {f f' : Nat → Int32} {g g' : Nat → Int64} {L : List Rw} (h : Enc f g L) {n : Nat} (hn : n = L.length) : Enc (va_cpy f f' 0 0 (n * 3)) (va_cpy g g' 0 0 n) L := by
  intro i r hr
  have hl := (List.getElem?_eq_some_iff.mp hr).1
  obtain ⟨e1, e2, e3, e4⟩ := h i r hr
  refine ⟨?_, ?_, ?_, ?_⟩
  · rw [pk_cpy_in (by omega) (by omega), ← e1]; congr 1; omega
  · rw [pk_cpy_in (by omega) (by omega), ← e2]; congr 1; omega
  · rw [pk_cpy_in (by omega) (by omega), ← e3]; congr 1; omega
  · rw [pk_cpy_in (by omega) (by omega), ← e4]; congr 1; omega
theorem Enc_snoc {f f' : Nat → Int32} {g g' : Nat → Int64} {M : List Rw} {r : Rw} (h : Enc f g M) (hf : ∀ j, j < M.length * 3 → f' j = f j) (hg : ∀ j, j < M.length → g' j = g j) (hr : EncA f' g' M.length r) : Enc f' g' (M ++ [r]) := by
  intro i q hq
  by_cases hi : i < M.length
  · rw [List.getElem?_append_left hi] at hq
    obtain ⟨e1, e2, e3, e4⟩ := h i q hq
    exact ⟨by rw [hf _ (by omega)]; exact e1, by rw [hf _ (by omega)]; exact e2, by rw [hf _ (by omega)]; exact e3, by rw [hg _ (by omega)]; exact e4⟩
  · rw [List.getElem?_append_right (by omega)] at hq
    have hz := (List.getElem?_eq_some_iff.mp hq).1
    have e : i = M.length := by simp at hz; omega
    subst e
    rw [Nat.sub_self] at hq
    cases hq
    exact hr
theorem nz_take {L : List Rw} {i : Nat} {r : Rw} (h : L[i]? = some r) : nz (L.take (i + 1)) = nz (L.take i) ++ (if r.2 = 0 then [] else [r]) := by
  rw [List.take_succ, h]
  by_cases e : r.2 = 0
  · simp [nz, List.filter_append, e]
  · simp [nz, List.filter_append, e]
theorem nz_len {L : List Rw} {i : Nat} : (nz (L.take i)).length ≤ i := Nat.le_trans (List.length_filter_le _ _) (by rw [List.length_take]; omega)
end
section
theorem dRW_init_0 : decode cRW_init 0 = .ok (.aload_n 0, 1) := by decide +kernel
theorem dRW_init_1 : decode cRW_init 1 = .ok (.invokespecial 3, 3) := by decide +kernel
theorem dRW_init_4 : decode cRW_init 4 = .ok (.aload_n 0, 1) := by decide +kernel
theorem dRW_init_5 : decode cRW_init 5 = .ok (.iload_n 1, 1) := by decide +kernel
theorem dRW_init_6 : decode cRW_init 6 = .ok (.iconst 3, 1) := by decide +kernel
theorem dRW_init_7 : decode cRW_init 7 = .ok (.imul, 1) := by decide +kernel
theorem dRW_init_8 : decode cRW_init 8 = .ok (.newarray .int, 2) := by decide +kernel
theorem dRW_init_10 : decode cRW_init 10 = .ok (.putfield 9, 3) := by decide +kernel
theorem dRW_init_13 : decode cRW_init 13 = .ok (.aload_n 0, 1) := by decide +kernel
theorem dRW_init_14 : decode cRW_init 14 = .ok (.iload_n 1, 1) := by decide +kernel
theorem dRW_init_15 : decode cRW_init 15 = .ok (.newarray .long, 2) := by decide +kernel
theorem dRW_init_17 : decode cRW_init 17 = .ok (.putfield 15, 3) := by decide +kernel
theorem dRW_init_20 : decode cRW_init 20 = .ok (.aload_n 0, 1) := by decide +kernel
theorem dRW_init_21 : decode cRW_init 21 = .ok (.iconst 0, 1) := by decide +kernel
theorem dRW_init_22 : decode cRW_init 22 = .ok (.putfield 19, 3) := by decide +kernel
theorem dRW_init_25 : decode cRW_init 25 = .ok (.return_, 1) := by decide +kernel
theorem dRW_clear_0 : decode cRW_clear 0 = .ok (.aload_n 0, 1) := by decide +kernel
theorem dRW_clear_1 : decode cRW_clear 1 = .ok (.iconst 0, 1) := by decide +kernel
theorem dRW_clear_2 : decode cRW_clear 2 = .ok (.putfield 19, 3) := by decide +kernel
theorem dRW_clear_5 : decode cRW_clear 5 = .ok (.return_, 1) := by decide +kernel
theorem dRW_copyFrom_0 : decode cRW_copyFrom 0 = .ok (.aload_n 0, 1) := by decide +kernel
theorem dRW_copyFrom_1 : decode cRW_copyFrom 1 = .ok (.aload_n 1, 1) := by decide +kernel
theorem dRW_copyFrom_2 : decode cRW_copyFrom 2 = .ok (.getfield 19, 3) := by decide +kernel
theorem dRW_copyFrom_5 : decode cRW_copyFrom 5 = .ok (.aload_n 0, 1) := by decide +kernel
theorem dRW_copyFrom_6 : decode cRW_copyFrom 6 = .ok (.getfield 15, 3) := by decide +kernel
theorem dRW_copyFrom_9 : decode cRW_copyFrom 9 = .ok (.arraylength, 1) := by decide +kernel
theorem dRW_copyFrom_10 : decode cRW_copyFrom 10 = .ok (.invokestatic 43, 3) := by decide +kernel
theorem dRW_copyFrom_13 : decode cRW_copyFrom 13 = .ok (.putfield 19, 3) := by decide +kernel
theorem dRW_copyFrom_16 : decode cRW_copyFrom 16 = .ok (.aload_n 1, 1) := by decide +kernel
theorem dRW_copyFrom_17 : decode cRW_copyFrom 17 = .ok (.getfield 9, 3) := by decide +kernel
theorem dRW_copyFrom_20 : decode cRW_copyFrom 20 = .ok (.iconst 0, 1) := by decide +kernel
theorem dRW_copyFrom_21 : decode cRW_copyFrom 21 = .ok (.aload_n 0, 1) := by decide +kernel
theorem dRW_copyFrom_22 : decode cRW_copyFrom 22 = .ok (.getfield 9, 3) := by decide +kernel
theorem dRW_copyFrom_25 : decode cRW_copyFrom 25 = .ok (.iconst 0, 1) := by decide +kernel
theorem dRW_copyFrom_26 : decode cRW_copyFrom 26 = .ok (.aload_n 0, 1) := by decide +kernel
theorem dRW_copyFrom_27 : decode cRW_copyFrom 27 = .ok (.getfield 19, 3) := by decide +kernel
theorem dRW_copyFrom_30 : decode cRW_copyFrom 30 = .ok (.iconst 3, 1) := by decide +kernel
theorem dRW_copyFrom_31 : decode cRW_copyFrom 31 = .ok (.imul, 1) := by decide +kernel
theorem dRW_copyFrom_32 : decode cRW_copyFrom 32 = .ok (.invokestatic 48, 3) := by decide +kernel
theorem dRW_copyFrom_35 : decode cRW_copyFrom 35 = .ok (.aload_n 1, 1) := by decide +kernel
theorem dRW_copyFrom_36 : decode cRW_copyFrom 36 = .ok (.getfield 15, 3) := by decide +kernel
theorem dRW_copyFrom_39 : decode cRW_copyFrom 39 = .ok (.iconst 0, 1) := by decide +kernel
theorem dRW_copyFrom_40 : decode cRW_copyFrom 40 = .ok (.aload_n 0, 1) := by decide +kernel
theorem dRW_copyFrom_41 : decode cRW_copyFrom 41 = .ok (.getfield 15, 3) := by decide +kernel
theorem dRW_copyFrom_44 : decode cRW_copyFrom 44 = .ok (.iconst 0, 1) := by decide +kernel
theorem dRW_copyFrom_45 : decode cRW_copyFrom 45 = .ok (.aload_n 0, 1) := by decide +kernel
theorem dRW_copyFrom_46 : decode cRW_copyFrom 46 = .ok (.getfield 19, 3) := by decide +kernel
theorem dRW_copyFrom_49 : decode cRW_copyFrom 49 = .ok (.invokestatic 48, 3) := by decide +kernel
theorem dRW_copyFrom_52 : decode cRW_copyFrom 52 = .ok (.return_, 1) := by decide +kernel
theorem dRW_size_0 : decode cRW_size 0 = .ok (.aload_n 0, 1) := by decide +kernel
theorem dRW_size_1 : decode cRW_size 1 = .ok (.getfield 19, 3) := by decide +kernel
theorem dRW_size_4 : decode cRW_size 4 = .ok (.ireturn, 1) := by decide +kernel
theorem dRW_weightAt_0 : decode cRW_weightAt 0 = .ok (.aload_n 0, 1) := by decide +kernel
theorem dRW_weightAt_1 : decode cRW_weightAt 1 = .ok (.getfield 15, 3) := by decide +kernel
theorem dRW_weightAt_4 : decode cRW_weightAt 4 = .ok (.iload_n 1, 1) := by decide +kernel
theorem dRW_weightAt_5 : decode cRW_weightAt 5 = .ok (.laload, 1) := by decide +kernel
theorem dRW_weightAt_6 : decode cRW_weightAt 6 = .ok (.lreturn, 1) := by decide +kernel
theorem dRW_addRow_0 : decode cRW_addRow 0 = .ok (.aload_n 0, 1) := by decide +kernel
theorem dRW_addRow_1 : decode cRW_addRow 1 = .ok (.aload_n 1, 1) := by decide +kernel
theorem dRW_addRow_2 : decode cRW_addRow 2 = .ok (.iload_n 2, 1) := by decide +kernel
theorem dRW_addRow_3 : decode cRW_addRow 3 = .ok (.iconst 0, 1) := by decide +kernel
theorem dRW_addRow_4 : decode cRW_addRow 4 = .ok (.invokevirtual 35, 3) := by decide +kernel
theorem dRW_addRow_7 : decode cRW_addRow 7 = .ok (.aload_n 1, 1) := by decide +kernel
theorem dRW_addRow_8 : decode cRW_addRow 8 = .ok (.iload_n 2, 1) := by decide +kernel
theorem dRW_addRow_9 : decode cRW_addRow 9 = .ok (.iconst 1, 1) := by decide +kernel
theorem dRW_addRow_10 : decode cRW_addRow 10 = .ok (.invokevirtual 35, 3) := by decide +kernel
theorem dRW_addRow_13 : decode cRW_addRow 13 = .ok (.aload_n 1, 1) := by decide +kernel
theorem dRW_addRow_14 : decode cRW_addRow 14 = .ok (.iload_n 2, 1) := by decide +kernel
theorem dRW_addRow_15 : decode cRW_addRow 15 = .ok (.iconst 2, 1) := by decide +kernel
theorem dRW_addRow_16 : decode cRW_addRow 16 = .ok (.invokevirtual 35, 3) := by decide +kernel
theorem dRW_addRow_19 : decode cRW_addRow 19 = .ok (.lload_n 3, 1) := by decide +kernel
theorem dRW_addRow_20 : decode cRW_addRow 20 = .ok (.invokevirtual 39, 3) := by decide +kernel
theorem dRW_addRow_23 : decode cRW_addRow 23 = .ok (.return_, 1) := by decide +kernel
theorem dRW_valueAt_0 : decode cRW_valueAt 0 = .ok (.aload_n 0, 1) := by decide +kernel
theorem dRW_valueAt_1 : decode cRW_valueAt 1 = .ok (.getfield 9, 3) := by decide +kernel
theorem dRW_valueAt_4 : decode cRW_valueAt 4 = .ok (.iload_n 1, 1) := by decide +kernel
theorem dRW_valueAt_5 : decode cRW_valueAt 5 = .ok (.iconst 3, 1) := by decide +kernel
theorem dRW_valueAt_6 : decode cRW_valueAt 6 = .ok (.imul, 1) := by decide +kernel
theorem dRW_valueAt_7 : decode cRW_valueAt 7 = .ok (.iload_n 2, 1) := by decide +kernel
theorem dRW_valueAt_8 : decode cRW_valueAt 8 = .ok (.iadd, 1) := by decide +kernel
theorem dRW_valueAt_9 : decode cRW_valueAt 9 = .ok (.iaload, 1) := by decide +kernel
theorem dRW_valueAt_10 : decode cRW_valueAt 10 = .ok (.ireturn, 1) := by decide +kernel
theorem dRW_addWeight_0 : decode cRW_addWeight 0 = .ok (.aload_n 0, 1) := by decide +kernel
theorem dRW_addWeight_1 : decode cRW_addWeight 1 = .ok (.iload_n 1, 1) := by decide +kernel
theorem dRW_addWeight_2 : decode cRW_addWeight 2 = .ok (.iload_n 2, 1) := by decide +kernel
theorem dRW_addWeight_3 : decode cRW_addWeight 3 = .ok (.iload_n 3, 1) := by decide +kernel
theorem dRW_addWeight_4 : decode cRW_addWeight 4 = .ok (.invokevirtual 23, 3) := by decide +kernel
theorem dRW_addWeight_7 : decode cRW_addWeight 7 = .ok (.istore 6, 2) := by decide +kernel
theorem dRW_addWeight_9 : decode cRW_addWeight 9 = .ok (.aload_n 0, 1) := by decide +kernel
theorem dRW_addWeight_10 : decode cRW_addWeight 10 = .ok (.iload 6, 2) := by decide +kernel
theorem dRW_addWeight_12 : decode cRW_addWeight 12 = .ok (.iload_n 1, 1) := by decide +kernel
theorem dRW_addWeight_13 : decode cRW_addWeight 13 = .ok (.iload_n 2, 1) := by decide +kernel
theorem dRW_addWeight_14 : decode cRW_addWeight 14 = .ok (.iload_n 3, 1) := by decide +kernel
theorem dRW_addWeight_15 : decode cRW_addWeight 15 = .ok (.invokevirtual 27, 3) := by decide +kernel
theorem dRW_addWeight_18 : decode cRW_addWeight 18 = .ok (.ifCond .eq 18, 3) := by decide +kernel
theorem dRW_addWeight_21 : decode cRW_addWeight 21 = .ok (.aload_n 0, 1) := by decide +kernel
theorem dRW_addWeight_22 : decode cRW_addWeight 22 = .ok (.getfield 15, 3) := by decide +kernel
theorem dRW_addWeight_25 : decode cRW_addWeight 25 = .ok (.iload 6, 2) := by decide +kernel
theorem dRW_addWeight_27 : decode cRW_addWeight 27 = .ok (.dup2, 1) := by decide +kernel
theorem dRW_addWeight_28 : decode cRW_addWeight 28 = .ok (.laload, 1) := by decide +kernel
theorem dRW_addWeight_29 : decode cRW_addWeight 29 = .ok (.lload 4, 2) := by decide +kernel
theorem dRW_addWeight_31 : decode cRW_addWeight 31 = .ok (.ladd, 1) := by decide +kernel
theorem dRW_addWeight_32 : decode cRW_addWeight 32 = .ok (.lastore, 1) := by decide +kernel
theorem dRW_addWeight_33 : decode cRW_addWeight 33 = .ok (.goto 26, 3) := by decide +kernel
theorem dRW_addWeight_36 : decode cRW_addWeight 36 = .ok (.aload_n 0, 1) := by decide +kernel
theorem dRW_addWeight_37 : decode cRW_addWeight 37 = .ok (.getfield 19, 3) := by decide +kernel
theorem dRW_addWeight_40 : decode cRW_addWeight 40 = .ok (.aload_n 0, 1) := by decide +kernel
theorem dRW_addWeight_41 : decode cRW_addWeight 41 = .ok (.getfield 15, 3) := by decide +kernel
theorem dRW_addWeight_44 : decode cRW_addWeight 44 = .ok (.arraylength, 1) := by decide +kernel
theorem dRW_addWeight_45 : decode cRW_addWeight 45 = .ok (.if_icmp .ge 14, 3) := by decide +kernel
theorem dRW_addWeight_48 : decode cRW_addWeight 48 = .ok (.aload_n 0, 1) := by decide +kernel
theorem dRW_addWeight_49 : decode cRW_addWeight 49 = .ok (.iload 6, 2) := by decide +kernel
theorem dRW_addWeight_51 : decode cRW_addWeight 51 = .ok (.iload_n 1, 1) := by decide +kernel
theorem dRW_addWeight_52 : decode cRW_addWeight 52 = .ok (.iload_n 2, 1) := by decide +kernel
theorem dRW_addWeight_53 : decode cRW_addWeight 53 = .ok (.iload_n 3, 1) := by decide +kernel
theorem dRW_addWeight_54 : decode cRW_addWeight 54 = .ok (.lload 4, 2) := by decide +kernel
theorem dRW_addWeight_56 : decode cRW_addWeight 56 = .ok (.invokevirtual 31, 3) := by decide +kernel
theorem dRW_addWeight_59 : decode cRW_addWeight 59 = .ok (.return_, 1) := by decide +kernel
theorem dRW_placeOf_0 : decode cRW_placeOf 0 = .ok (.iconst 0, 1) := by decide +kernel
theorem dRW_placeOf_1 : decode cRW_placeOf 1 = .ok (.istore 4, 2) := by decide +kernel
theorem dRW_placeOf_3 : decode cRW_placeOf 3 = .ok (.aload_n 0, 1) := by decide +kernel
theorem dRW_placeOf_4 : decode cRW_placeOf 4 = .ok (.getfield 19, 3) := by decide +kernel
theorem dRW_placeOf_7 : decode cRW_placeOf 7 = .ok (.istore 5, 2) := by decide +kernel
theorem dRW_placeOf_9 : decode cRW_placeOf 9 = .ok (.iload 4, 2) := by decide +kernel
theorem dRW_placeOf_11 : decode cRW_placeOf 11 = .ok (.iload 5, 2) := by decide +kernel
theorem dRW_placeOf_13 : decode cRW_placeOf 13 = .ok (.if_icmp .ge 40, 3) := by decide +kernel
theorem dRW_placeOf_16 : decode cRW_placeOf 16 = .ok (.iload 4, 2) := by decide +kernel
theorem dRW_placeOf_18 : decode cRW_placeOf 18 = .ok (.iload 5, 2) := by decide +kernel
theorem dRW_placeOf_20 : decode cRW_placeOf 20 = .ok (.iadd, 1) := by decide +kernel
theorem dRW_placeOf_21 : decode cRW_placeOf 21 = .ok (.iconst 2, 1) := by decide +kernel
theorem dRW_placeOf_22 : decode cRW_placeOf 22 = .ok (.idiv, 1) := by decide +kernel
theorem dRW_placeOf_23 : decode cRW_placeOf 23 = .ok (.istore 6, 2) := by decide +kernel
theorem dRW_placeOf_25 : decode cRW_placeOf 25 = .ok (.aload_n 0, 1) := by decide +kernel
theorem dRW_placeOf_26 : decode cRW_placeOf 26 = .ok (.iload 6, 2) := by decide +kernel
theorem dRW_placeOf_28 : decode cRW_placeOf 28 = .ok (.iload_n 1, 1) := by decide +kernel
theorem dRW_placeOf_29 : decode cRW_placeOf 29 = .ok (.iload_n 2, 1) := by decide +kernel
theorem dRW_placeOf_30 : decode cRW_placeOf 30 = .ok (.iload_n 3, 1) := by decide +kernel
theorem dRW_placeOf_31 : decode cRW_placeOf 31 = .ok (.invokevirtual 62, 3) := by decide +kernel
theorem dRW_placeOf_34 : decode cRW_placeOf 34 = .ok (.ifCond .ge 12, 3) := by decide +kernel
theorem dRW_placeOf_37 : decode cRW_placeOf 37 = .ok (.iload 6, 2) := by decide +kernel
theorem dRW_placeOf_39 : decode cRW_placeOf 39 = .ok (.iconst 1, 1) := by decide +kernel
theorem dRW_placeOf_40 : decode cRW_placeOf 40 = .ok (.iadd, 1) := by decide +kernel
theorem dRW_placeOf_41 : decode cRW_placeOf 41 = .ok (.istore 4, 2) := by decide +kernel
theorem dRW_placeOf_43 : decode cRW_placeOf 43 = .ok (.goto 7, 3) := by decide +kernel
theorem dRW_placeOf_46 : decode cRW_placeOf 46 = .ok (.iload 6, 2) := by decide +kernel
theorem dRW_placeOf_48 : decode cRW_placeOf 48 = .ok (.istore 5, 2) := by decide +kernel
theorem dRW_placeOf_50 : decode cRW_placeOf 50 = .ok (.goto (-41), 3) := by decide +kernel
theorem dRW_placeOf_53 : decode cRW_placeOf 53 = .ok (.iload 4, 2) := by decide +kernel
theorem dRW_placeOf_55 : decode cRW_placeOf 55 = .ok (.ireturn, 1) := by decide +kernel
theorem dRW_compareAt_0 : decode cRW_compareAt 0 = .ok (.iload_n 1, 1) := by decide +kernel
theorem dRW_compareAt_1 : decode cRW_compareAt 1 = .ok (.iconst 3, 1) := by decide +kernel
theorem dRW_compareAt_2 : decode cRW_compareAt 2 = .ok (.imul, 1) := by decide +kernel
theorem dRW_compareAt_3 : decode cRW_compareAt 3 = .ok (.istore 5, 2) := by decide +kernel
theorem dRW_compareAt_5 : decode cRW_compareAt 5 = .ok (.aload_n 0, 1) := by decide +kernel
theorem dRW_compareAt_6 : decode cRW_compareAt 6 = .ok (.getfield 9, 3) := by decide +kernel
theorem dRW_compareAt_9 : decode cRW_compareAt 9 = .ok (.iload 5, 2) := by decide +kernel
theorem dRW_compareAt_11 : decode cRW_compareAt 11 = .ok (.iaload, 1) := by decide +kernel
theorem dRW_compareAt_12 : decode cRW_compareAt 12 = .ok (.iload_n 2, 1) := by decide +kernel
theorem dRW_compareAt_13 : decode cRW_compareAt 13 = .ok (.if_icmp .eq 20, 3) := by decide +kernel
theorem dRW_compareAt_16 : decode cRW_compareAt 16 = .ok (.aload_n 0, 1) := by decide +kernel
theorem dRW_compareAt_17 : decode cRW_compareAt 17 = .ok (.getfield 9, 3) := by decide +kernel
theorem dRW_compareAt_20 : decode cRW_compareAt 20 = .ok (.iload 5, 2) := by decide +kernel
theorem dRW_compareAt_22 : decode cRW_compareAt 22 = .ok (.iaload, 1) := by decide +kernel
theorem dRW_compareAt_23 : decode cRW_compareAt 23 = .ok (.iload_n 2, 1) := by decide +kernel
theorem dRW_compareAt_24 : decode cRW_compareAt 24 = .ok (.if_icmp .ge 7, 3) := by decide +kernel
theorem dRW_compareAt_27 : decode cRW_compareAt 27 = .ok (.iconst (-1), 1) := by decide +kernel
theorem dRW_compareAt_28 : decode cRW_compareAt 28 = .ok (.goto 4, 3) := by decide +kernel
theorem dRW_compareAt_31 : decode cRW_compareAt 31 = .ok (.iconst 1, 1) := by decide +kernel
theorem dRW_compareAt_32 : decode cRW_compareAt 32 = .ok (.ireturn, 1) := by decide +kernel
theorem dRW_compareAt_33 : decode cRW_compareAt 33 = .ok (.aload_n 0, 1) := by decide +kernel
theorem dRW_compareAt_34 : decode cRW_compareAt 34 = .ok (.getfield 9, 3) := by decide +kernel
theorem dRW_compareAt_37 : decode cRW_compareAt 37 = .ok (.iload 5, 2) := by decide +kernel
theorem dRW_compareAt_39 : decode cRW_compareAt 39 = .ok (.iconst 1, 1) := by decide +kernel
theorem dRW_compareAt_40 : decode cRW_compareAt 40 = .ok (.iadd, 1) := by decide +kernel
theorem dRW_compareAt_41 : decode cRW_compareAt 41 = .ok (.iaload, 1) := by decide +kernel
theorem dRW_compareAt_42 : decode cRW_compareAt 42 = .ok (.iload_n 3, 1) := by decide +kernel
theorem dRW_compareAt_43 : decode cRW_compareAt 43 = .ok (.if_icmp .eq 22, 3) := by decide +kernel
theorem dRW_compareAt_46 : decode cRW_compareAt 46 = .ok (.aload_n 0, 1) := by decide +kernel
theorem dRW_compareAt_47 : decode cRW_compareAt 47 = .ok (.getfield 9, 3) := by decide +kernel
theorem dRW_compareAt_50 : decode cRW_compareAt 50 = .ok (.iload 5, 2) := by decide +kernel
theorem dRW_compareAt_52 : decode cRW_compareAt 52 = .ok (.iconst 1, 1) := by decide +kernel
theorem dRW_compareAt_53 : decode cRW_compareAt 53 = .ok (.iadd, 1) := by decide +kernel
theorem dRW_compareAt_54 : decode cRW_compareAt 54 = .ok (.iaload, 1) := by decide +kernel
theorem dRW_compareAt_55 : decode cRW_compareAt 55 = .ok (.iload_n 3, 1) := by decide +kernel
theorem dRW_compareAt_56 : decode cRW_compareAt 56 = .ok (.if_icmp .ge 7, 3) := by decide +kernel
theorem dRW_compareAt_59 : decode cRW_compareAt 59 = .ok (.iconst (-1), 1) := by decide +kernel
theorem dRW_compareAt_60 : decode cRW_compareAt 60 = .ok (.goto 4, 3) := by decide +kernel
theorem dRW_compareAt_63 : decode cRW_compareAt 63 = .ok (.iconst 1, 1) := by decide +kernel
theorem dRW_compareAt_64 : decode cRW_compareAt 64 = .ok (.ireturn, 1) := by decide +kernel
theorem dRW_compareAt_65 : decode cRW_compareAt 65 = .ok (.aload_n 0, 1) := by decide +kernel
theorem dRW_compareAt_66 : decode cRW_compareAt 66 = .ok (.getfield 9, 3) := by decide +kernel
theorem dRW_compareAt_69 : decode cRW_compareAt 69 = .ok (.iload 5, 2) := by decide +kernel
theorem dRW_compareAt_71 : decode cRW_compareAt 71 = .ok (.iconst 2, 1) := by decide +kernel
theorem dRW_compareAt_72 : decode cRW_compareAt 72 = .ok (.iadd, 1) := by decide +kernel
theorem dRW_compareAt_73 : decode cRW_compareAt 73 = .ok (.iaload, 1) := by decide +kernel
theorem dRW_compareAt_74 : decode cRW_compareAt 74 = .ok (.iload 4, 2) := by decide +kernel
theorem dRW_compareAt_76 : decode cRW_compareAt 76 = .ok (.if_icmp .eq 23, 3) := by decide +kernel
theorem dRW_compareAt_79 : decode cRW_compareAt 79 = .ok (.aload_n 0, 1) := by decide +kernel
theorem dRW_compareAt_80 : decode cRW_compareAt 80 = .ok (.getfield 9, 3) := by decide +kernel
theorem dRW_compareAt_83 : decode cRW_compareAt 83 = .ok (.iload 5, 2) := by decide +kernel
theorem dRW_compareAt_85 : decode cRW_compareAt 85 = .ok (.iconst 2, 1) := by decide +kernel
theorem dRW_compareAt_86 : decode cRW_compareAt 86 = .ok (.iadd, 1) := by decide +kernel
theorem dRW_compareAt_87 : decode cRW_compareAt 87 = .ok (.iaload, 1) := by decide +kernel
theorem dRW_compareAt_88 : decode cRW_compareAt 88 = .ok (.iload 4, 2) := by decide +kernel
theorem dRW_compareAt_90 : decode cRW_compareAt 90 = .ok (.if_icmp .ge 7, 3) := by decide +kernel
theorem dRW_compareAt_93 : decode cRW_compareAt 93 = .ok (.iconst (-1), 1) := by decide +kernel
theorem dRW_compareAt_94 : decode cRW_compareAt 94 = .ok (.goto 4, 3) := by decide +kernel
theorem dRW_compareAt_97 : decode cRW_compareAt 97 = .ok (.iconst 1, 1) := by decide +kernel
theorem dRW_compareAt_98 : decode cRW_compareAt 98 = .ok (.ireturn, 1) := by decide +kernel
theorem dRW_compareAt_99 : decode cRW_compareAt 99 = .ok (.iconst 0, 1) := by decide +kernel
theorem dRW_compareAt_100 : decode cRW_compareAt 100 = .ok (.ireturn, 1) := by decide +kernel
theorem dRW_isAt_0 : decode cRW_isAt 0 = .ok (.iload_n 1, 1) := by decide +kernel
theorem dRW_isAt_1 : decode cRW_isAt 1 = .ok (.aload_n 0, 1) := by decide +kernel
theorem dRW_isAt_2 : decode cRW_isAt 2 = .ok (.getfield 19, 3) := by decide +kernel
theorem dRW_isAt_5 : decode cRW_isAt 5 = .ok (.if_icmp .ge 19, 3) := by decide +kernel
theorem dRW_isAt_8 : decode cRW_isAt 8 = .ok (.aload_n 0, 1) := by decide +kernel
theorem dRW_isAt_9 : decode cRW_isAt 9 = .ok (.iload_n 1, 1) := by decide +kernel
theorem dRW_isAt_10 : decode cRW_isAt 10 = .ok (.iload_n 2, 1) := by decide +kernel
theorem dRW_isAt_11 : decode cRW_isAt 11 = .ok (.iload_n 3, 1) := by decide +kernel
theorem dRW_isAt_12 : decode cRW_isAt 12 = .ok (.iload 4, 2) := by decide +kernel
theorem dRW_isAt_14 : decode cRW_isAt 14 = .ok (.invokevirtual 62, 3) := by decide +kernel
theorem dRW_isAt_17 : decode cRW_isAt 17 = .ok (.ifCond .ne 7, 3) := by decide +kernel
theorem dRW_isAt_20 : decode cRW_isAt 20 = .ok (.iconst 1, 1) := by decide +kernel
theorem dRW_isAt_21 : decode cRW_isAt 21 = .ok (.goto 4, 3) := by decide +kernel
theorem dRW_isAt_24 : decode cRW_isAt 24 = .ok (.iconst 0, 1) := by decide +kernel
theorem dRW_isAt_25 : decode cRW_isAt 25 = .ok (.ireturn, 1) := by decide +kernel
theorem dRW_insertAt_0 : decode cRW_insertAt 0 = .ok (.iload_n 1, 1) := by decide +kernel
theorem dRW_insertAt_1 : decode cRW_insertAt 1 = .ok (.iconst 3, 1) := by decide +kernel
theorem dRW_insertAt_2 : decode cRW_insertAt 2 = .ok (.imul, 1) := by decide +kernel
theorem dRW_insertAt_3 : decode cRW_insertAt 3 = .ok (.istore 7, 2) := by decide +kernel
theorem dRW_insertAt_5 : decode cRW_insertAt 5 = .ok (.aload_n 0, 1) := by decide +kernel
theorem dRW_insertAt_6 : decode cRW_insertAt 6 = .ok (.getfield 9, 3) := by decide +kernel
theorem dRW_insertAt_9 : decode cRW_insertAt 9 = .ok (.iload 7, 2) := by decide +kernel
theorem dRW_insertAt_11 : decode cRW_insertAt 11 = .ok (.aload_n 0, 1) := by decide +kernel
theorem dRW_insertAt_12 : decode cRW_insertAt 12 = .ok (.getfield 9, 3) := by decide +kernel
theorem dRW_insertAt_15 : decode cRW_insertAt 15 = .ok (.iload 7, 2) := by decide +kernel
theorem dRW_insertAt_17 : decode cRW_insertAt 17 = .ok (.iconst 3, 1) := by decide +kernel
theorem dRW_insertAt_18 : decode cRW_insertAt 18 = .ok (.iadd, 1) := by decide +kernel
theorem dRW_insertAt_19 : decode cRW_insertAt 19 = .ok (.aload_n 0, 1) := by decide +kernel
theorem dRW_insertAt_20 : decode cRW_insertAt 20 = .ok (.getfield 19, 3) := by decide +kernel
theorem dRW_insertAt_23 : decode cRW_insertAt 23 = .ok (.iload_n 1, 1) := by decide +kernel
theorem dRW_insertAt_24 : decode cRW_insertAt 24 = .ok (.isub, 1) := by decide +kernel
theorem dRW_insertAt_25 : decode cRW_insertAt 25 = .ok (.iconst 3, 1) := by decide +kernel
theorem dRW_insertAt_26 : decode cRW_insertAt 26 = .ok (.imul, 1) := by decide +kernel
theorem dRW_insertAt_27 : decode cRW_insertAt 27 = .ok (.invokestatic 48, 3) := by decide +kernel
theorem dRW_insertAt_30 : decode cRW_insertAt 30 = .ok (.aload_n 0, 1) := by decide +kernel
theorem dRW_insertAt_31 : decode cRW_insertAt 31 = .ok (.getfield 15, 3) := by decide +kernel
theorem dRW_insertAt_34 : decode cRW_insertAt 34 = .ok (.iload_n 1, 1) := by decide +kernel
theorem dRW_insertAt_35 : decode cRW_insertAt 35 = .ok (.aload_n 0, 1) := by decide +kernel
theorem dRW_insertAt_36 : decode cRW_insertAt 36 = .ok (.getfield 15, 3) := by decide +kernel
theorem dRW_insertAt_39 : decode cRW_insertAt 39 = .ok (.iload_n 1, 1) := by decide +kernel
theorem dRW_insertAt_40 : decode cRW_insertAt 40 = .ok (.iconst 1, 1) := by decide +kernel
theorem dRW_insertAt_41 : decode cRW_insertAt 41 = .ok (.iadd, 1) := by decide +kernel
theorem dRW_insertAt_42 : decode cRW_insertAt 42 = .ok (.aload_n 0, 1) := by decide +kernel
theorem dRW_insertAt_43 : decode cRW_insertAt 43 = .ok (.getfield 19, 3) := by decide +kernel
theorem dRW_insertAt_46 : decode cRW_insertAt 46 = .ok (.iload_n 1, 1) := by decide +kernel
theorem dRW_insertAt_47 : decode cRW_insertAt 47 = .ok (.isub, 1) := by decide +kernel
theorem dRW_insertAt_48 : decode cRW_insertAt 48 = .ok (.invokestatic 48, 3) := by decide +kernel
theorem dRW_insertAt_51 : decode cRW_insertAt 51 = .ok (.aload_n 0, 1) := by decide +kernel
theorem dRW_insertAt_52 : decode cRW_insertAt 52 = .ok (.getfield 9, 3) := by decide +kernel
theorem dRW_insertAt_55 : decode cRW_insertAt 55 = .ok (.iload 7, 2) := by decide +kernel
theorem dRW_insertAt_57 : decode cRW_insertAt 57 = .ok (.iload_n 2, 1) := by decide +kernel
theorem dRW_insertAt_58 : decode cRW_insertAt 58 = .ok (.iastore, 1) := by decide +kernel
theorem dRW_insertAt_59 : decode cRW_insertAt 59 = .ok (.aload_n 0, 1) := by decide +kernel
theorem dRW_insertAt_60 : decode cRW_insertAt 60 = .ok (.getfield 9, 3) := by decide +kernel
theorem dRW_insertAt_63 : decode cRW_insertAt 63 = .ok (.iload 7, 2) := by decide +kernel
theorem dRW_insertAt_65 : decode cRW_insertAt 65 = .ok (.iconst 1, 1) := by decide +kernel
theorem dRW_insertAt_66 : decode cRW_insertAt 66 = .ok (.iadd, 1) := by decide +kernel
theorem dRW_insertAt_67 : decode cRW_insertAt 67 = .ok (.iload_n 3, 1) := by decide +kernel
theorem dRW_insertAt_68 : decode cRW_insertAt 68 = .ok (.iastore, 1) := by decide +kernel
theorem dRW_insertAt_69 : decode cRW_insertAt 69 = .ok (.aload_n 0, 1) := by decide +kernel
theorem dRW_insertAt_70 : decode cRW_insertAt 70 = .ok (.getfield 9, 3) := by decide +kernel
theorem dRW_insertAt_73 : decode cRW_insertAt 73 = .ok (.iload 7, 2) := by decide +kernel
theorem dRW_insertAt_75 : decode cRW_insertAt 75 = .ok (.iconst 2, 1) := by decide +kernel
theorem dRW_insertAt_76 : decode cRW_insertAt 76 = .ok (.iadd, 1) := by decide +kernel
theorem dRW_insertAt_77 : decode cRW_insertAt 77 = .ok (.iload 4, 2) := by decide +kernel
theorem dRW_insertAt_79 : decode cRW_insertAt 79 = .ok (.iastore, 1) := by decide +kernel
theorem dRW_insertAt_80 : decode cRW_insertAt 80 = .ok (.aload_n 0, 1) := by decide +kernel
theorem dRW_insertAt_81 : decode cRW_insertAt 81 = .ok (.getfield 15, 3) := by decide +kernel
theorem dRW_insertAt_84 : decode cRW_insertAt 84 = .ok (.iload_n 1, 1) := by decide +kernel
theorem dRW_insertAt_85 : decode cRW_insertAt 85 = .ok (.lload 5, 2) := by decide +kernel
theorem dRW_insertAt_87 : decode cRW_insertAt 87 = .ok (.lastore, 1) := by decide +kernel
theorem dRW_insertAt_88 : decode cRW_insertAt 88 = .ok (.aload_n 0, 1) := by decide +kernel
theorem dRW_insertAt_89 : decode cRW_insertAt 89 = .ok (.dup, 1) := by decide +kernel
theorem dRW_insertAt_90 : decode cRW_insertAt 90 = .ok (.getfield 19, 3) := by decide +kernel
theorem dRW_insertAt_93 : decode cRW_insertAt 93 = .ok (.iconst 1, 1) := by decide +kernel
theorem dRW_insertAt_94 : decode cRW_insertAt 94 = .ok (.iadd, 1) := by decide +kernel
theorem dRW_insertAt_95 : decode cRW_insertAt 95 = .ok (.putfield 19, 3) := by decide +kernel
theorem dRW_insertAt_98 : decode cRW_insertAt 98 = .ok (.return_, 1) := by decide +kernel
theorem dRW_dropZeros_0 : decode cRW_dropZeros 0 = .ok (.iconst 0, 1) := by decide +kernel
theorem dRW_dropZeros_1 : decode cRW_dropZeros 1 = .ok (.istore_n 1, 1) := by decide +kernel
theorem dRW_dropZeros_2 : decode cRW_dropZeros 2 = .ok (.iconst 0, 1) := by decide +kernel
theorem dRW_dropZeros_3 : decode cRW_dropZeros 3 = .ok (.istore_n 2, 1) := by decide +kernel
theorem dRW_dropZeros_4 : decode cRW_dropZeros 4 = .ok (.iload_n 2, 1) := by decide +kernel
theorem dRW_dropZeros_5 : decode cRW_dropZeros 5 = .ok (.aload_n 0, 1) := by decide +kernel
theorem dRW_dropZeros_6 : decode cRW_dropZeros 6 = .ok (.getfield 19, 3) := by decide +kernel
theorem dRW_dropZeros_9 : decode cRW_dropZeros 9 = .ok (.if_icmp .ge 53, 3) := by decide +kernel
theorem dRW_dropZeros_12 : decode cRW_dropZeros 12 = .ok (.aload_n 0, 1) := by decide +kernel
theorem dRW_dropZeros_13 : decode cRW_dropZeros 13 = .ok (.getfield 15, 3) := by decide +kernel
theorem dRW_dropZeros_16 : decode cRW_dropZeros 16 = .ok (.iload_n 2, 1) := by decide +kernel
theorem dRW_dropZeros_17 : decode cRW_dropZeros 17 = .ok (.laload, 1) := by decide +kernel
theorem dRW_dropZeros_18 : decode cRW_dropZeros 18 = .ok (.lconst 0, 1) := by decide +kernel
theorem dRW_dropZeros_19 : decode cRW_dropZeros 19 = .ok (.lcmp, 1) := by decide +kernel
theorem dRW_dropZeros_20 : decode cRW_dropZeros 20 = .ok (.ifCond .eq 36, 3) := by decide +kernel
theorem dRW_dropZeros_23 : decode cRW_dropZeros 23 = .ok (.aload_n 0, 1) := by decide +kernel
theorem dRW_dropZeros_24 : decode cRW_dropZeros 24 = .ok (.getfield 9, 3) := by decide +kernel
theorem dRW_dropZeros_27 : decode cRW_dropZeros 27 = .ok (.iload_n 2, 1) := by decide +kernel
theorem dRW_dropZeros_28 : decode cRW_dropZeros 28 = .ok (.iconst 3, 1) := by decide +kernel
theorem dRW_dropZeros_29 : decode cRW_dropZeros 29 = .ok (.imul, 1) := by decide +kernel
theorem dRW_dropZeros_30 : decode cRW_dropZeros 30 = .ok (.aload_n 0, 1) := by decide +kernel
theorem dRW_dropZeros_31 : decode cRW_dropZeros 31 = .ok (.getfield 9, 3) := by decide +kernel
theorem dRW_dropZeros_34 : decode cRW_dropZeros 34 = .ok (.iload_n 1, 1) := by decide +kernel
theorem dRW_dropZeros_35 : decode cRW_dropZeros 35 = .ok (.iconst 3, 1) := by decide +kernel
theorem dRW_dropZeros_36 : decode cRW_dropZeros 36 = .ok (.imul, 1) := by decide +kernel
theorem dRW_dropZeros_37 : decode cRW_dropZeros 37 = .ok (.iconst 3, 1) := by decide +kernel
theorem dRW_dropZeros_38 : decode cRW_dropZeros 38 = .ok (.invokestatic 48, 3) := by decide +kernel
theorem dRW_dropZeros_41 : decode cRW_dropZeros 41 = .ok (.aload_n 0, 1) := by decide +kernel
theorem dRW_dropZeros_42 : decode cRW_dropZeros 42 = .ok (.getfield 15, 3) := by decide +kernel
theorem dRW_dropZeros_45 : decode cRW_dropZeros 45 = .ok (.iload_n 1, 1) := by decide +kernel
theorem dRW_dropZeros_46 : decode cRW_dropZeros 46 = .ok (.aload_n 0, 1) := by decide +kernel
theorem dRW_dropZeros_47 : decode cRW_dropZeros 47 = .ok (.getfield 15, 3) := by decide +kernel
theorem dRW_dropZeros_50 : decode cRW_dropZeros 50 = .ok (.iload_n 2, 1) := by decide +kernel
theorem dRW_dropZeros_51 : decode cRW_dropZeros 51 = .ok (.laload, 1) := by decide +kernel
theorem dRW_dropZeros_52 : decode cRW_dropZeros 52 = .ok (.lastore, 1) := by decide +kernel
theorem dRW_dropZeros_53 : decode cRW_dropZeros 53 = .ok (.iinc 1 1, 3) := by decide +kernel
theorem dRW_dropZeros_56 : decode cRW_dropZeros 56 = .ok (.iinc 2 1, 3) := by decide +kernel
theorem dRW_dropZeros_59 : decode cRW_dropZeros 59 = .ok (.goto (-55), 3) := by decide +kernel
theorem dRW_dropZeros_62 : decode cRW_dropZeros 62 = .ok (.aload_n 0, 1) := by decide +kernel
theorem dRW_dropZeros_63 : decode cRW_dropZeros 63 = .ok (.iload_n 1, 1) := by decide +kernel
theorem dRW_dropZeros_64 : decode cRW_dropZeros 64 = .ok (.putfield 19, 3) := by decide +kernel
theorem dRW_dropZeros_67 : decode cRW_dropZeros 67 = .ok (.return_, 1) := by decide +kernel
theorem dRW_canHold_0 : decode cRW_canHold 0 = .ok (.aload_n 1, 1) := by decide +kernel
theorem dRW_canHold_1 : decode cRW_canHold 1 = .ok (.getfield 19, 3) := by decide +kernel
theorem dRW_canHold_4 : decode cRW_canHold 4 = .ok (.aload_n 0, 1) := by decide +kernel
theorem dRW_canHold_5 : decode cRW_canHold 5 = .ok (.getfield 15, 3) := by decide +kernel
theorem dRW_canHold_8 : decode cRW_canHold 8 = .ok (.arraylength, 1) := by decide +kernel
theorem dRW_canHold_9 : decode cRW_canHold 9 = .ok (.if_icmp .le 5, 3) := by decide +kernel
theorem dRW_canHold_12 : decode cRW_canHold 12 = .ok (.iconst 0, 1) := by decide +kernel
theorem dRW_canHold_13 : decode cRW_canHold 13 = .ok (.ireturn, 1) := by decide +kernel
theorem dRW_canHold_14 : decode cRW_canHold 14 = .ok (.iconst 0, 1) := by decide +kernel
theorem dRW_canHold_15 : decode cRW_canHold 15 = .ok (.istore_n 2, 1) := by decide +kernel
theorem dRW_canHold_16 : decode cRW_canHold 16 = .ok (.iload_n 2, 1) := by decide +kernel
theorem dRW_canHold_17 : decode cRW_canHold 17 = .ok (.aload_n 1, 1) := by decide +kernel
theorem dRW_canHold_18 : decode cRW_canHold 18 = .ok (.getfield 19, 3) := by decide +kernel
theorem dRW_canHold_21 : decode cRW_canHold 21 = .ok (.if_icmp .ge 37, 3) := by decide +kernel
theorem dRW_canHold_24 : decode cRW_canHold 24 = .ok (.aload_n 1, 1) := by decide +kernel
theorem dRW_canHold_25 : decode cRW_canHold 25 = .ok (.getfield 15, 3) := by decide +kernel
theorem dRW_canHold_28 : decode cRW_canHold 28 = .ok (.iload_n 2, 1) := by decide +kernel
theorem dRW_canHold_29 : decode cRW_canHold 29 = .ok (.laload, 1) := by decide +kernel
theorem dRW_canHold_30 : decode cRW_canHold 30 = .ok (.ldc2_w 54, 3) := by decide +kernel
theorem dRW_canHold_33 : decode cRW_canHold 33 = .ok (.lcmp, 1) := by decide +kernel
theorem dRW_canHold_34 : decode cRW_canHold 34 = .ok (.ifCond .gt 16, 3) := by decide +kernel
theorem dRW_canHold_37 : decode cRW_canHold 37 = .ok (.aload_n 1, 1) := by decide +kernel
theorem dRW_canHold_38 : decode cRW_canHold 38 = .ok (.getfield 15, 3) := by decide +kernel
theorem dRW_canHold_41 : decode cRW_canHold 41 = .ok (.iload_n 2, 1) := by decide +kernel
theorem dRW_canHold_42 : decode cRW_canHold 42 = .ok (.laload, 1) := by decide +kernel
theorem dRW_canHold_43 : decode cRW_canHold 43 = .ok (.ldc2_w 56, 3) := by decide +kernel
theorem dRW_canHold_46 : decode cRW_canHold 46 = .ok (.lcmp, 1) := by decide +kernel
theorem dRW_canHold_47 : decode cRW_canHold 47 = .ok (.ifCond .ge 5, 3) := by decide +kernel
theorem dRW_canHold_50 : decode cRW_canHold 50 = .ok (.iconst 0, 1) := by decide +kernel
theorem dRW_canHold_51 : decode cRW_canHold 51 = .ok (.ireturn, 1) := by decide +kernel
theorem dRW_canHold_52 : decode cRW_canHold 52 = .ok (.iinc 2 1, 3) := by decide +kernel
theorem dRW_canHold_55 : decode cRW_canHold 55 = .ok (.goto (-39), 3) := by decide +kernel
theorem dRW_canHold_58 : decode cRW_canHold 58 = .ok (.iconst 1, 1) := by decide +kernel
theorem dRW_canHold_59 : decode cRW_canHold 59 = .ok (.ireturn, 1) := by decide +kernel
theorem dRW_hasBelowZero_0 : decode cRW_hasBelowZero 0 = .ok (.iconst 0, 1) := by decide +kernel
theorem dRW_hasBelowZero_1 : decode cRW_hasBelowZero 1 = .ok (.istore_n 1, 1) := by decide +kernel
theorem dRW_hasBelowZero_2 : decode cRW_hasBelowZero 2 = .ok (.iload_n 1, 1) := by decide +kernel
theorem dRW_hasBelowZero_3 : decode cRW_hasBelowZero 3 = .ok (.aload_n 0, 1) := by decide +kernel
theorem dRW_hasBelowZero_4 : decode cRW_hasBelowZero 4 = .ok (.getfield 19, 3) := by decide +kernel
theorem dRW_hasBelowZero_7 : decode cRW_hasBelowZero 7 = .ok (.if_icmp .ge 22, 3) := by decide +kernel
theorem dRW_hasBelowZero_10 : decode cRW_hasBelowZero 10 = .ok (.aload_n 0, 1) := by decide +kernel
theorem dRW_hasBelowZero_11 : decode cRW_hasBelowZero 11 = .ok (.getfield 15, 3) := by decide +kernel
theorem dRW_hasBelowZero_14 : decode cRW_hasBelowZero 14 = .ok (.iload_n 1, 1) := by decide +kernel
theorem dRW_hasBelowZero_15 : decode cRW_hasBelowZero 15 = .ok (.laload, 1) := by decide +kernel
theorem dRW_hasBelowZero_16 : decode cRW_hasBelowZero 16 = .ok (.lconst 0, 1) := by decide +kernel
theorem dRW_hasBelowZero_17 : decode cRW_hasBelowZero 17 = .ok (.lcmp, 1) := by decide +kernel
theorem dRW_hasBelowZero_18 : decode cRW_hasBelowZero 18 = .ok (.ifCond .ge 5, 3) := by decide +kernel
theorem dRW_hasBelowZero_21 : decode cRW_hasBelowZero 21 = .ok (.iconst 1, 1) := by decide +kernel
theorem dRW_hasBelowZero_22 : decode cRW_hasBelowZero 22 = .ok (.ireturn, 1) := by decide +kernel
theorem dRW_hasBelowZero_23 : decode cRW_hasBelowZero 23 = .ok (.iinc 1 1, 3) := by decide +kernel
theorem dRW_hasBelowZero_26 : decode cRW_hasBelowZero 26 = .ok (.goto (-24), 3) := by decide +kernel
theorem dRW_hasBelowZero_29 : decode cRW_hasBelowZero 29 = .ok (.iconst 0, 1) := by decide +kernel
theorem dRW_hasBelowZero_30 : decode cRW_hasBelowZero 30 = .ok (.ireturn, 1) := by decide +kernel
theorem dRW_differencesFrom_0 : decode cRW_differencesFrom 0 = .ok (.iconst 0, 1) := by decide +kernel
theorem dRW_differencesFrom_1 : decode cRW_differencesFrom 1 = .ok (.istore_n 2, 1) := by decide +kernel
theorem dRW_differencesFrom_2 : decode cRW_differencesFrom 2 = .ok (.iconst 0, 1) := by decide +kernel
theorem dRW_differencesFrom_3 : decode cRW_differencesFrom 3 = .ok (.istore_n 3, 1) := by decide +kernel
theorem dRW_differencesFrom_4 : decode cRW_differencesFrom 4 = .ok (.iload_n 3, 1) := by decide +kernel
theorem dRW_differencesFrom_5 : decode cRW_differencesFrom 5 = .ok (.aload_n 0, 1) := by decide +kernel
theorem dRW_differencesFrom_6 : decode cRW_differencesFrom 6 = .ok (.getfield 19, 3) := by decide +kernel
theorem dRW_differencesFrom_9 : decode cRW_differencesFrom 9 = .ok (.if_icmp .ge 44, 3) := by decide +kernel
theorem dRW_differencesFrom_12 : decode cRW_differencesFrom 12 = .ok (.aload_n 1, 1) := by decide +kernel
theorem dRW_differencesFrom_13 : decode cRW_differencesFrom 13 = .ok (.aload_n 0, 1) := by decide +kernel
theorem dRW_differencesFrom_14 : decode cRW_differencesFrom 14 = .ok (.iload_n 3, 1) := by decide +kernel
theorem dRW_differencesFrom_15 : decode cRW_differencesFrom 15 = .ok (.iconst 0, 1) := by decide +kernel
theorem dRW_differencesFrom_16 : decode cRW_differencesFrom 16 = .ok (.invokevirtual 35, 3) := by decide +kernel
theorem dRW_differencesFrom_19 : decode cRW_differencesFrom 19 = .ok (.aload_n 0, 1) := by decide +kernel
theorem dRW_differencesFrom_20 : decode cRW_differencesFrom 20 = .ok (.iload_n 3, 1) := by decide +kernel
theorem dRW_differencesFrom_21 : decode cRW_differencesFrom 21 = .ok (.iconst 1, 1) := by decide +kernel
theorem dRW_differencesFrom_22 : decode cRW_differencesFrom 22 = .ok (.invokevirtual 35, 3) := by decide +kernel
theorem dRW_differencesFrom_25 : decode cRW_differencesFrom 25 = .ok (.aload_n 0, 1) := by decide +kernel
theorem dRW_differencesFrom_26 : decode cRW_differencesFrom 26 = .ok (.iload_n 3, 1) := by decide +kernel
theorem dRW_differencesFrom_27 : decode cRW_differencesFrom 27 = .ok (.iconst 2, 1) := by decide +kernel
theorem dRW_differencesFrom_28 : decode cRW_differencesFrom 28 = .ok (.invokevirtual 35, 3) := by decide +kernel
theorem dRW_differencesFrom_31 : decode cRW_differencesFrom 31 = .ok (.invokevirtual 58, 3) := by decide +kernel
theorem dRW_differencesFrom_34 : decode cRW_differencesFrom 34 = .ok (.aload_n 0, 1) := by decide +kernel
theorem dRW_differencesFrom_35 : decode cRW_differencesFrom 35 = .ok (.getfield 15, 3) := by decide +kernel
theorem dRW_differencesFrom_38 : decode cRW_differencesFrom 38 = .ok (.iload_n 3, 1) := by decide +kernel
theorem dRW_differencesFrom_39 : decode cRW_differencesFrom 39 = .ok (.laload, 1) := by decide +kernel
theorem dRW_differencesFrom_40 : decode cRW_differencesFrom 40 = .ok (.lcmp, 1) := by decide +kernel
theorem dRW_differencesFrom_41 : decode cRW_differencesFrom 41 = .ok (.ifCond .eq 6, 3) := by decide +kernel
theorem dRW_differencesFrom_44 : decode cRW_differencesFrom 44 = .ok (.iinc 2 1, 3) := by decide +kernel
theorem dRW_differencesFrom_47 : decode cRW_differencesFrom 47 = .ok (.iinc 3 1, 3) := by decide +kernel
theorem dRW_differencesFrom_50 : decode cRW_differencesFrom 50 = .ok (.goto (-46), 3) := by decide +kernel
theorem dRW_differencesFrom_53 : decode cRW_differencesFrom 53 = .ok (.iconst 0, 1) := by decide +kernel
theorem dRW_differencesFrom_54 : decode cRW_differencesFrom 54 = .ok (.istore_n 3, 1) := by decide +kernel
theorem dRW_differencesFrom_55 : decode cRW_differencesFrom 55 = .ok (.iload_n 3, 1) := by decide +kernel
theorem dRW_differencesFrom_56 : decode cRW_differencesFrom 56 = .ok (.aload_n 1, 1) := by decide +kernel
theorem dRW_differencesFrom_57 : decode cRW_differencesFrom 57 = .ok (.getfield 19, 3) := by decide +kernel
theorem dRW_differencesFrom_60 : decode cRW_differencesFrom 60 = .ok (.if_icmp .ge 39, 3) := by decide +kernel
theorem dRW_differencesFrom_63 : decode cRW_differencesFrom 63 = .ok (.aload_n 0, 1) := by decide +kernel
theorem dRW_differencesFrom_64 : decode cRW_differencesFrom 64 = .ok (.aload_n 1, 1) := by decide +kernel
theorem dRW_differencesFrom_65 : decode cRW_differencesFrom 65 = .ok (.iload_n 3, 1) := by decide +kernel
theorem dRW_differencesFrom_66 : decode cRW_differencesFrom 66 = .ok (.iconst 0, 1) := by decide +kernel
theorem dRW_differencesFrom_67 : decode cRW_differencesFrom 67 = .ok (.invokevirtual 35, 3) := by decide +kernel
theorem dRW_differencesFrom_70 : decode cRW_differencesFrom 70 = .ok (.aload_n 1, 1) := by decide +kernel
theorem dRW_differencesFrom_71 : decode cRW_differencesFrom 71 = .ok (.iload_n 3, 1) := by decide +kernel
theorem dRW_differencesFrom_72 : decode cRW_differencesFrom 72 = .ok (.iconst 1, 1) := by decide +kernel
theorem dRW_differencesFrom_73 : decode cRW_differencesFrom 73 = .ok (.invokevirtual 35, 3) := by decide +kernel
theorem dRW_differencesFrom_76 : decode cRW_differencesFrom 76 = .ok (.aload_n 1, 1) := by decide +kernel
theorem dRW_differencesFrom_77 : decode cRW_differencesFrom 77 = .ok (.iload_n 3, 1) := by decide +kernel
theorem dRW_differencesFrom_78 : decode cRW_differencesFrom 78 = .ok (.iconst 2, 1) := by decide +kernel
theorem dRW_differencesFrom_79 : decode cRW_differencesFrom 79 = .ok (.invokevirtual 35, 3) := by decide +kernel
theorem dRW_differencesFrom_82 : decode cRW_differencesFrom 82 = .ok (.invokevirtual 58, 3) := by decide +kernel
theorem dRW_differencesFrom_85 : decode cRW_differencesFrom 85 = .ok (.lconst 0, 1) := by decide +kernel
theorem dRW_differencesFrom_86 : decode cRW_differencesFrom 86 = .ok (.lcmp, 1) := by decide +kernel
theorem dRW_differencesFrom_87 : decode cRW_differencesFrom 87 = .ok (.ifCond .ne 6, 3) := by decide +kernel
theorem dRW_differencesFrom_90 : decode cRW_differencesFrom 90 = .ok (.iinc 2 1, 3) := by decide +kernel
theorem dRW_differencesFrom_93 : decode cRW_differencesFrom 93 = .ok (.iinc 3 1, 3) := by decide +kernel
theorem dRW_differencesFrom_96 : decode cRW_differencesFrom 96 = .ok (.goto (-41), 3) := by decide +kernel
theorem dRW_differencesFrom_99 : decode cRW_differencesFrom 99 = .ok (.iload_n 2, 1) := by decide +kernel
theorem dRW_differencesFrom_100 : decode cRW_differencesFrom 100 = .ok (.ireturn, 1) := by decide +kernel
theorem dRW_weightOf_0 : decode cRW_weightOf 0 = .ok (.aload_n 0, 1) := by decide +kernel
theorem dRW_weightOf_1 : decode cRW_weightOf 1 = .ok (.iload_n 1, 1) := by decide +kernel
theorem dRW_weightOf_2 : decode cRW_weightOf 2 = .ok (.iload_n 2, 1) := by decide +kernel
theorem dRW_weightOf_3 : decode cRW_weightOf 3 = .ok (.iload_n 3, 1) := by decide +kernel
theorem dRW_weightOf_4 : decode cRW_weightOf 4 = .ok (.invokevirtual 23, 3) := by decide +kernel
theorem dRW_weightOf_7 : decode cRW_weightOf 7 = .ok (.istore 4, 2) := by decide +kernel
theorem dRW_weightOf_9 : decode cRW_weightOf 9 = .ok (.aload_n 0, 1) := by decide +kernel
theorem dRW_weightOf_10 : decode cRW_weightOf 10 = .ok (.iload 4, 2) := by decide +kernel
theorem dRW_weightOf_12 : decode cRW_weightOf 12 = .ok (.iload_n 1, 1) := by decide +kernel
theorem dRW_weightOf_13 : decode cRW_weightOf 13 = .ok (.iload_n 2, 1) := by decide +kernel
theorem dRW_weightOf_14 : decode cRW_weightOf 14 = .ok (.iload_n 3, 1) := by decide +kernel
theorem dRW_weightOf_15 : decode cRW_weightOf 15 = .ok (.invokevirtual 27, 3) := by decide +kernel
theorem dRW_weightOf_18 : decode cRW_weightOf 18 = .ok (.ifCond .eq 13, 3) := by decide +kernel
theorem dRW_weightOf_21 : decode cRW_weightOf 21 = .ok (.aload_n 0, 1) := by decide +kernel
theorem dRW_weightOf_22 : decode cRW_weightOf 22 = .ok (.getfield 15, 3) := by decide +kernel
theorem dRW_weightOf_25 : decode cRW_weightOf 25 = .ok (.iload 4, 2) := by decide +kernel
theorem dRW_weightOf_27 : decode cRW_weightOf 27 = .ok (.laload, 1) := by decide +kernel
theorem dRW_weightOf_28 : decode cRW_weightOf 28 = .ok (.goto 4, 3) := by decide +kernel
theorem dRW_weightOf_31 : decode cRW_weightOf 31 = .ok (.lconst 0, 1) := by decide +kernel
theorem dRW_weightOf_32 : decode cRW_weightOf 32 = .ok (.lreturn, 1) := by decide +kernel
theorem dRW_sumOfWeights_0 : decode cRW_sumOfWeights 0 = .ok (.lconst 0, 1) := by decide +kernel
theorem dRW_sumOfWeights_1 : decode cRW_sumOfWeights 1 = .ok (.lstore_n 1, 1) := by decide +kernel
theorem dRW_sumOfWeights_2 : decode cRW_sumOfWeights 2 = .ok (.iconst 0, 1) := by decide +kernel
theorem dRW_sumOfWeights_3 : decode cRW_sumOfWeights 3 = .ok (.istore_n 3, 1) := by decide +kernel
theorem dRW_sumOfWeights_4 : decode cRW_sumOfWeights 4 = .ok (.iload_n 3, 1) := by decide +kernel
theorem dRW_sumOfWeights_5 : decode cRW_sumOfWeights 5 = .ok (.aload_n 0, 1) := by decide +kernel
theorem dRW_sumOfWeights_6 : decode cRW_sumOfWeights 6 = .ok (.getfield 19, 3) := by decide +kernel
theorem dRW_sumOfWeights_9 : decode cRW_sumOfWeights 9 = .ok (.if_icmp .ge 18, 3) := by decide +kernel
theorem dRW_sumOfWeights_12 : decode cRW_sumOfWeights 12 = .ok (.lload_n 1, 1) := by decide +kernel
theorem dRW_sumOfWeights_13 : decode cRW_sumOfWeights 13 = .ok (.aload_n 0, 1) := by decide +kernel
theorem dRW_sumOfWeights_14 : decode cRW_sumOfWeights 14 = .ok (.getfield 15, 3) := by decide +kernel
theorem dRW_sumOfWeights_17 : decode cRW_sumOfWeights 17 = .ok (.iload_n 3, 1) := by decide +kernel
theorem dRW_sumOfWeights_18 : decode cRW_sumOfWeights 18 = .ok (.laload, 1) := by decide +kernel
theorem dRW_sumOfWeights_19 : decode cRW_sumOfWeights 19 = .ok (.ladd, 1) := by decide +kernel
theorem dRW_sumOfWeights_20 : decode cRW_sumOfWeights 20 = .ok (.lstore_n 1, 1) := by decide +kernel
theorem dRW_sumOfWeights_21 : decode cRW_sumOfWeights 21 = .ok (.iinc 3 1, 3) := by decide +kernel
theorem dRW_sumOfWeights_24 : decode cRW_sumOfWeights 24 = .ok (.goto (-20), 3) := by decide +kernel
theorem dRW_sumOfWeights_27 : decode cRW_sumOfWeights 27 = .ok (.lload_n 1, 1) := by decide +kernel
theorem dRW_sumOfWeights_28 : decode cRW_sumOfWeights 28 = .ok (.lreturn, 1) := by decide +kernel
theorem dRW_weightedSum_0 : decode cRW_weightedSum 0 = .ok (.lconst 0, 1) := by decide +kernel
theorem dRW_weightedSum_1 : decode cRW_weightedSum 1 = .ok (.lstore_n 2, 1) := by decide +kernel
theorem dRW_weightedSum_2 : decode cRW_weightedSum 2 = .ok (.iconst 0, 1) := by decide +kernel
theorem dRW_weightedSum_3 : decode cRW_weightedSum 3 = .ok (.istore 4, 2) := by decide +kernel
theorem dRW_weightedSum_5 : decode cRW_weightedSum 5 = .ok (.iload 4, 2) := by decide +kernel
theorem dRW_weightedSum_7 : decode cRW_weightedSum 7 = .ok (.aload_n 0, 1) := by decide +kernel
theorem dRW_weightedSum_8 : decode cRW_weightedSum 8 = .ok (.getfield 19, 3) := by decide +kernel
theorem dRW_weightedSum_11 : decode cRW_weightedSum 11 = .ok (.if_icmp .ge 28, 3) := by decide +kernel
theorem dRW_weightedSum_14 : decode cRW_weightedSum 14 = .ok (.lload_n 2, 1) := by decide +kernel
theorem dRW_weightedSum_15 : decode cRW_weightedSum 15 = .ok (.aload_n 0, 1) := by decide +kernel
theorem dRW_weightedSum_16 : decode cRW_weightedSum 16 = .ok (.getfield 15, 3) := by decide +kernel
theorem dRW_weightedSum_19 : decode cRW_weightedSum 19 = .ok (.iload 4, 2) := by decide +kernel
theorem dRW_weightedSum_21 : decode cRW_weightedSum 21 = .ok (.laload, 1) := by decide +kernel
theorem dRW_weightedSum_22 : decode cRW_weightedSum 22 = .ok (.aload_n 0, 1) := by decide +kernel
theorem dRW_weightedSum_23 : decode cRW_weightedSum 23 = .ok (.iload 4, 2) := by decide +kernel
theorem dRW_weightedSum_25 : decode cRW_weightedSum 25 = .ok (.iload_n 1, 1) := by decide +kernel
theorem dRW_weightedSum_26 : decode cRW_weightedSum 26 = .ok (.invokevirtual 35, 3) := by decide +kernel
theorem dRW_weightedSum_29 : decode cRW_weightedSum 29 = .ok (.i2l, 1) := by decide +kernel
theorem dRW_weightedSum_30 : decode cRW_weightedSum 30 = .ok (.lmul, 1) := by decide +kernel
theorem dRW_weightedSum_31 : decode cRW_weightedSum 31 = .ok (.ladd, 1) := by decide +kernel
theorem dRW_weightedSum_32 : decode cRW_weightedSum 32 = .ok (.lstore_n 2, 1) := by decide +kernel
theorem dRW_weightedSum_33 : decode cRW_weightedSum 33 = .ok (.iinc 4 1, 3) := by decide +kernel
theorem dRW_weightedSum_36 : decode cRW_weightedSum 36 = .ok (.goto (-31), 3) := by decide +kernel
theorem dRW_weightedSum_39 : decode cRW_weightedSum 39 = .ok (.lload_n 2, 1) := by decide +kernel
theorem dRW_weightedSum_40 : decode cRW_weightedSum 40 = .ok (.lreturn, 1) := by decide +kernel
end
section
theorem dPD_init_0 : decode cPD_init 0 = .ok (.aload_n 0, 1) := by decide +kernel
theorem dPD_init_1 : decode cPD_init 1 = .ok (.invokespecial 3, 3) := by decide +kernel
theorem dPD_init_4 : decode cPD_init 4 = .ok (.aload_n 0, 1) := by decide +kernel
theorem dPD_init_5 : decode cPD_init 5 = .ok (.bipush 12, 2) := by decide +kernel
theorem dPD_init_7 : decode cPD_init 7 = .ok (.newarray .int, 2) := by decide +kernel
theorem dPD_init_9 : decode cPD_init 9 = .ok (.putfield 9, 3) := by decide +kernel
theorem dPD_init_12 : decode cPD_init 12 = .ok (.aload_n 0, 1) := by decide +kernel
theorem dPD_init_13 : decode cPD_init 13 = .ok (.bipush 36, 2) := by decide +kernel
theorem dPD_init_15 : decode cPD_init 15 = .ok (.newarray .int, 2) := by decide +kernel
theorem dPD_init_17 : decode cPD_init 17 = .ok (.putfield 15, 3) := by decide +kernel
theorem dPD_init_20 : decode cPD_init 20 = .ok (.aload_n 0, 1) := by decide +kernel
theorem dPD_init_21 : decode cPD_init 21 = .ok (.bipush 12, 2) := by decide +kernel
theorem dPD_init_23 : decode cPD_init 23 = .ok (.newarray .int, 2) := by decide +kernel
theorem dPD_init_25 : decode cPD_init 25 = .ok (.putfield 18, 3) := by decide +kernel
theorem dPD_init_28 : decode cPD_init 28 = .ok (.aload_n 0, 1) := by decide +kernel
theorem dPD_init_29 : decode cPD_init 29 = .ok (.iconst 0, 1) := by decide +kernel
theorem dPD_init_30 : decode cPD_init 30 = .ok (.putfield 21, 3) := by decide +kernel
theorem dPD_init_33 : decode cPD_init 33 = .ok (.return_, 1) := by decide +kernel
theorem dPD_size_0 : decode cPD_size 0 = .ok (.aload_n 0, 1) := by decide +kernel
theorem dPD_size_1 : decode cPD_size 1 = .ok (.getfield 21, 3) := by decide +kernel
theorem dPD_size_4 : decode cPD_size 4 = .ok (.ireturn, 1) := by decide +kernel
theorem dPD_append_0 : decode cPD_append 0 = .ok (.aload_n 0, 1) := by decide +kernel
theorem dPD_append_1 : decode cPD_append 1 = .ok (.getfield 21, 3) := by decide +kernel
theorem dPD_append_4 : decode cPD_append 4 = .ok (.bipush 12, 2) := by decide +kernel
theorem dPD_append_6 : decode cPD_append 6 = .ok (.if_icmp .lt 4, 3) := by decide +kernel
theorem dPD_append_9 : decode cPD_append 9 = .ok (.return_, 1) := by decide +kernel
theorem dPD_append_10 : decode cPD_append 10 = .ok (.aload_n 0, 1) := by decide +kernel
theorem dPD_append_11 : decode cPD_append 11 = .ok (.getfield 21, 3) := by decide +kernel
theorem dPD_append_14 : decode cPD_append 14 = .ok (.iconst 3, 1) := by decide +kernel
theorem dPD_append_15 : decode cPD_append 15 = .ok (.imul, 1) := by decide +kernel
theorem dPD_append_16 : decode cPD_append 16 = .ok (.istore 6, 2) := by decide +kernel
theorem dPD_append_18 : decode cPD_append 18 = .ok (.aload_n 0, 1) := by decide +kernel
theorem dPD_append_19 : decode cPD_append 19 = .ok (.getfield 9, 3) := by decide +kernel
theorem dPD_append_22 : decode cPD_append 22 = .ok (.aload_n 0, 1) := by decide +kernel
theorem dPD_append_23 : decode cPD_append 23 = .ok (.getfield 21, 3) := by decide +kernel
theorem dPD_append_26 : decode cPD_append 26 = .ok (.iload_n 1, 1) := by decide +kernel
theorem dPD_append_27 : decode cPD_append 27 = .ok (.iastore, 1) := by decide +kernel
theorem dPD_append_28 : decode cPD_append 28 = .ok (.aload_n 0, 1) := by decide +kernel
theorem dPD_append_29 : decode cPD_append 29 = .ok (.getfield 15, 3) := by decide +kernel
theorem dPD_append_32 : decode cPD_append 32 = .ok (.iload 6, 2) := by decide +kernel
theorem dPD_append_34 : decode cPD_append 34 = .ok (.iload_n 2, 1) := by decide +kernel
theorem dPD_append_35 : decode cPD_append 35 = .ok (.iastore, 1) := by decide +kernel
theorem dPD_append_36 : decode cPD_append 36 = .ok (.aload_n 0, 1) := by decide +kernel
theorem dPD_append_37 : decode cPD_append 37 = .ok (.getfield 15, 3) := by decide +kernel
theorem dPD_append_40 : decode cPD_append 40 = .ok (.iload 6, 2) := by decide +kernel
theorem dPD_append_42 : decode cPD_append 42 = .ok (.iconst 1, 1) := by decide +kernel
theorem dPD_append_43 : decode cPD_append 43 = .ok (.iadd, 1) := by decide +kernel
theorem dPD_append_44 : decode cPD_append 44 = .ok (.iload_n 3, 1) := by decide +kernel
theorem dPD_append_45 : decode cPD_append 45 = .ok (.iastore, 1) := by decide +kernel
theorem dPD_append_46 : decode cPD_append 46 = .ok (.aload_n 0, 1) := by decide +kernel
theorem dPD_append_47 : decode cPD_append 47 = .ok (.getfield 15, 3) := by decide +kernel
theorem dPD_append_50 : decode cPD_append 50 = .ok (.iload 6, 2) := by decide +kernel
theorem dPD_append_52 : decode cPD_append 52 = .ok (.iconst 2, 1) := by decide +kernel
theorem dPD_append_53 : decode cPD_append 53 = .ok (.iadd, 1) := by decide +kernel
theorem dPD_append_54 : decode cPD_append 54 = .ok (.iload 4, 2) := by decide +kernel
theorem dPD_append_56 : decode cPD_append 56 = .ok (.iastore, 1) := by decide +kernel
theorem dPD_append_57 : decode cPD_append 57 = .ok (.aload_n 0, 1) := by decide +kernel
theorem dPD_append_58 : decode cPD_append 58 = .ok (.getfield 18, 3) := by decide +kernel
theorem dPD_append_61 : decode cPD_append 61 = .ok (.aload_n 0, 1) := by decide +kernel
theorem dPD_append_62 : decode cPD_append 62 = .ok (.getfield 21, 3) := by decide +kernel
theorem dPD_append_65 : decode cPD_append 65 = .ok (.iload 5, 2) := by decide +kernel
theorem dPD_append_67 : decode cPD_append 67 = .ok (.iastore, 1) := by decide +kernel
theorem dPD_append_68 : decode cPD_append 68 = .ok (.aload_n 0, 1) := by decide +kernel
theorem dPD_append_69 : decode cPD_append 69 = .ok (.dup, 1) := by decide +kernel
theorem dPD_append_70 : decode cPD_append 70 = .ok (.getfield 21, 3) := by decide +kernel
theorem dPD_append_73 : decode cPD_append 73 = .ok (.iconst 1, 1) := by decide +kernel
theorem dPD_append_74 : decode cPD_append 74 = .ok (.iadd, 1) := by decide +kernel
theorem dPD_append_75 : decode cPD_append 75 = .ok (.putfield 21, 3) := by decide +kernel
theorem dPD_append_78 : decode cPD_append 78 = .ok (.return_, 1) := by decide +kernel
theorem dPD_addTo_0 : decode cPD_addTo 0 = .ok (.iconst 0, 1) := by decide +kernel
theorem dPD_addTo_1 : decode cPD_addTo 1 = .ok (.istore_n 3, 1) := by decide +kernel
theorem dPD_addTo_2 : decode cPD_addTo 2 = .ok (.iload_n 3, 1) := by decide +kernel
theorem dPD_addTo_3 : decode cPD_addTo 3 = .ok (.aload_n 0, 1) := by decide +kernel
theorem dPD_addTo_4 : decode cPD_addTo 4 = .ok (.getfield 21, 3) := by decide +kernel
theorem dPD_addTo_7 : decode cPD_addTo 7 = .ok (.if_icmp .ge 60, 3) := by decide +kernel
theorem dPD_addTo_10 : decode cPD_addTo 10 = .ok (.aload_n 0, 1) := by decide +kernel
theorem dPD_addTo_11 : decode cPD_addTo 11 = .ok (.getfield 9, 3) := by decide +kernel
theorem dPD_addTo_14 : decode cPD_addTo 14 = .ok (.iload_n 3, 1) := by decide +kernel
theorem dPD_addTo_15 : decode cPD_addTo 15 = .ok (.iaload, 1) := by decide +kernel
theorem dPD_addTo_16 : decode cPD_addTo 16 = .ok (.iload_n 2, 1) := by decide +kernel
theorem dPD_addTo_17 : decode cPD_addTo 17 = .ok (.if_icmp .ne 44, 3) := by decide +kernel
theorem dPD_addTo_20 : decode cPD_addTo 20 = .ok (.iload_n 3, 1) := by decide +kernel
theorem dPD_addTo_21 : decode cPD_addTo 21 = .ok (.iconst 3, 1) := by decide +kernel
theorem dPD_addTo_22 : decode cPD_addTo 22 = .ok (.imul, 1) := by decide +kernel
theorem dPD_addTo_23 : decode cPD_addTo 23 = .ok (.istore 4, 2) := by decide +kernel
theorem dPD_addTo_25 : decode cPD_addTo 25 = .ok (.aload_n 1, 1) := by decide +kernel
theorem dPD_addTo_26 : decode cPD_addTo 26 = .ok (.aload_n 0, 1) := by decide +kernel
theorem dPD_addTo_27 : decode cPD_addTo 27 = .ok (.getfield 15, 3) := by decide +kernel
theorem dPD_addTo_30 : decode cPD_addTo 30 = .ok (.iload 4, 2) := by decide +kernel
theorem dPD_addTo_32 : decode cPD_addTo 32 = .ok (.iaload, 1) := by decide +kernel
theorem dPD_addTo_33 : decode cPD_addTo 33 = .ok (.aload_n 0, 1) := by decide +kernel
theorem dPD_addTo_34 : decode cPD_addTo 34 = .ok (.getfield 15, 3) := by decide +kernel
theorem dPD_addTo_37 : decode cPD_addTo 37 = .ok (.iload 4, 2) := by decide +kernel
theorem dPD_addTo_39 : decode cPD_addTo 39 = .ok (.iconst 1, 1) := by decide +kernel
theorem dPD_addTo_40 : decode cPD_addTo 40 = .ok (.iadd, 1) := by decide +kernel
theorem dPD_addTo_41 : decode cPD_addTo 41 = .ok (.iaload, 1) := by decide +kernel
theorem dPD_addTo_42 : decode cPD_addTo 42 = .ok (.aload_n 0, 1) := by decide +kernel
theorem dPD_addTo_43 : decode cPD_addTo 43 = .ok (.getfield 15, 3) := by decide +kernel
theorem dPD_addTo_46 : decode cPD_addTo 46 = .ok (.iload 4, 2) := by decide +kernel
theorem dPD_addTo_48 : decode cPD_addTo 48 = .ok (.iconst 2, 1) := by decide +kernel
theorem dPD_addTo_49 : decode cPD_addTo 49 = .ok (.iadd, 1) := by decide +kernel
theorem dPD_addTo_50 : decode cPD_addTo 50 = .ok (.iaload, 1) := by decide +kernel
theorem dPD_addTo_51 : decode cPD_addTo 51 = .ok (.aload_n 0, 1) := by decide +kernel
theorem dPD_addTo_52 : decode cPD_addTo 52 = .ok (.getfield 18, 3) := by decide +kernel
theorem dPD_addTo_55 : decode cPD_addTo 55 = .ok (.iload_n 3, 1) := by decide +kernel
theorem dPD_addTo_56 : decode cPD_addTo 56 = .ok (.iaload, 1) := by decide +kernel
theorem dPD_addTo_57 : decode cPD_addTo 57 = .ok (.i2l, 1) := by decide +kernel
theorem dPD_addTo_58 : decode cPD_addTo 58 = .ok (.invokevirtual 25, 3) := by decide +kernel
theorem dPD_addTo_61 : decode cPD_addTo 61 = .ok (.iinc 3 1, 3) := by decide +kernel
theorem dPD_addTo_64 : decode cPD_addTo 64 = .ok (.goto (-62), 3) := by decide +kernel
theorem dPD_addTo_67 : decode cPD_addTo 67 = .ok (.return_, 1) := by decide +kernel
theorem dPD_clear_0 : decode cPD_clear 0 = .ok (.aload_n 0, 1) := by decide +kernel
theorem dPD_clear_1 : decode cPD_clear 1 = .ok (.iconst 0, 1) := by decide +kernel
theorem dPD_clear_2 : decode cPD_clear 2 = .ok (.putfield 21, 3) := by decide +kernel
theorem dPD_clear_5 : decode cPD_clear 5 = .ok (.return_, 1) := by decide +kernel
theorem dTR_init_0 : decode cTR_init 0 = .ok (.aload_n 0, 1) := by decide +kernel
theorem dTR_init_1 : decode cTR_init 1 = .ok (.invokespecial 1, 3) := by decide +kernel
theorem dTR_init_4 : decode cTR_init 4 = .ok (.aload_n 0, 1) := by decide +kernel
theorem dTR_init_5 : decode cTR_init 5 = .ok (.iload_n 1, 1) := by decide +kernel
theorem dTR_init_6 : decode cTR_init 6 = .ok (.putfield 7, 3) := by decide +kernel
theorem dTR_init_9 : decode cTR_init 9 = .ok (.return_, 1) := by decide +kernel
theorem dTR_fill_0 : decode cTR_fill 0 = .ok (.aload_n 2, 1) := by decide +kernel
theorem dTR_fill_1 : decode cTR_fill 1 = .ok (.aload_n 1, 1) := by decide +kernel
theorem dTR_fill_2 : decode cTR_fill 2 = .ok (.aload_n 0, 1) := by decide +kernel
theorem dTR_fill_3 : decode cTR_fill 3 = .ok (.getfield 7, 3) := by decide +kernel
theorem dTR_fill_6 : decode cTR_fill 6 = .ok (.aaload, 1) := by decide +kernel
theorem dTR_fill_7 : decode cTR_fill 7 = .ok (.invokevirtual 13, 3) := by decide +kernel
theorem dTR_fill_10 : decode cTR_fill 10 = .ok (.return_, 1) := by decide +kernel
theorem dCR_fill_0 : decode cCR_fill 0 = .ok (.aload_n 2, 1) := by decide +kernel
theorem dCR_fill_1 : decode cCR_fill 1 = .ok (.aload_n 1, 1) := by decide +kernel
theorem dCR_fill_2 : decode cCR_fill 2 = .ok (.aload_n 0, 1) := by decide +kernel
theorem dCR_fill_3 : decode cCR_fill 3 = .ok (.getfield 7, 3) := by decide +kernel
theorem dCR_fill_6 : decode cCR_fill 6 = .ok (.aaload, 1) := by decide +kernel
theorem dCR_fill_7 : decode cCR_fill 7 = .ok (.invokevirtual 19, 3) := by decide +kernel
theorem dCR_fill_10 : decode cCR_fill 10 = .ok (.aload_n 1, 1) := by decide +kernel
theorem dCR_fill_11 : decode cCR_fill 11 = .ok (.aload_n 0, 1) := by decide +kernel
theorem dCR_fill_12 : decode cCR_fill 12 = .ok (.getfield 13, 3) := by decide +kernel
theorem dCR_fill_15 : decode cCR_fill 15 = .ok (.aaload, 1) := by decide +kernel
theorem dCR_fill_16 : decode cCR_fill 16 = .ok (.astore_n 3, 1) := by decide +kernel
theorem dCR_fill_17 : decode cCR_fill 17 = .ok (.aload_n 0, 1) := by decide +kernel
theorem dCR_fill_18 : decode cCR_fill 18 = .ok (.getfield 16, 3) := by decide +kernel
theorem dCR_fill_21 : decode cCR_fill 21 = .ok (.ifCond .ne 7, 3) := by decide +kernel
theorem dCR_fill_24 : decode cCR_fill 24 = .ok (.lconst 1, 1) := by decide +kernel
theorem dCR_fill_25 : decode cCR_fill 25 = .ok (.goto 6, 3) := by decide +kernel
theorem dCR_fill_28 : decode cCR_fill 28 = .ok (.ldc2_w 25, 3) := by decide +kernel
theorem dCR_fill_31 : decode cCR_fill 31 = .ok (.lstore 4, 2) := by decide +kernel
theorem dCR_fill_33 : decode cCR_fill 33 = .ok (.iconst 0, 1) := by decide +kernel
theorem dCR_fill_34 : decode cCR_fill 34 = .ok (.istore 6, 2) := by decide +kernel
theorem dCR_fill_36 : decode cCR_fill 36 = .ok (.iload 6, 2) := by decide +kernel
theorem dCR_fill_38 : decode cCR_fill 38 = .ok (.aload_n 3, 1) := by decide +kernel
theorem dCR_fill_39 : decode cCR_fill 39 = .ok (.invokevirtual 27, 3) := by decide +kernel
theorem dCR_fill_42 : decode cCR_fill 42 = .ok (.if_icmp .ge 25, 3) := by decide +kernel
theorem dCR_fill_45 : decode cCR_fill 45 = .ok (.aload_n 2, 1) := by decide +kernel
theorem dCR_fill_46 : decode cCR_fill 46 = .ok (.aload_n 3, 1) := by decide +kernel
theorem dCR_fill_47 : decode cCR_fill 47 = .ok (.iload 6, 2) := by decide +kernel
theorem dCR_fill_49 : decode cCR_fill 49 = .ok (.lload 4, 2) := by decide +kernel
theorem dCR_fill_51 : decode cCR_fill 51 = .ok (.aload_n 3, 1) := by decide +kernel
theorem dCR_fill_52 : decode cCR_fill 52 = .ok (.iload 6, 2) := by decide +kernel
theorem dCR_fill_54 : decode cCR_fill 54 = .ok (.invokevirtual 31, 3) := by decide +kernel
theorem dCR_fill_57 : decode cCR_fill 57 = .ok (.lmul, 1) := by decide +kernel
theorem dCR_fill_58 : decode cCR_fill 58 = .ok (.invokevirtual 35, 3) := by decide +kernel
theorem dCR_fill_61 : decode cCR_fill 61 = .ok (.iinc 6 1, 3) := by decide +kernel
theorem dCR_fill_64 : decode cCR_fill 64 = .ok (.goto (-28), 3) := by decide +kernel
theorem dCR_fill_67 : decode cCR_fill 67 = .ok (.return_, 1) := by decide +kernel
theorem dCR_init_0 : decode cCR_init 0 = .ok (.aload_n 0, 1) := by decide +kernel
theorem dCR_init_1 : decode cCR_init 1 = .ok (.invokespecial 1, 3) := by decide +kernel
theorem dCR_init_4 : decode cCR_init 4 = .ok (.aload_n 0, 1) := by decide +kernel
theorem dCR_init_5 : decode cCR_init 5 = .ok (.iload_n 1, 1) := by decide +kernel
theorem dCR_init_6 : decode cCR_init 6 = .ok (.putfield 7, 3) := by decide +kernel
theorem dCR_init_9 : decode cCR_init 9 = .ok (.aload_n 0, 1) := by decide +kernel
theorem dCR_init_10 : decode cCR_init 10 = .ok (.iload_n 2, 1) := by decide +kernel
theorem dCR_init_11 : decode cCR_init 11 = .ok (.putfield 13, 3) := by decide +kernel
theorem dCR_init_14 : decode cCR_init 14 = .ok (.aload_n 0, 1) := by decide +kernel
theorem dCR_init_15 : decode cCR_init 15 = .ok (.iload_n 3, 1) := by decide +kernel
theorem dCR_init_16 : decode cCR_init 16 = .ok (.putfield 16, 3) := by decide +kernel
theorem dCR_init_19 : decode cCR_init 19 = .ok (.return_, 1) := by decide +kernel
theorem dDR_fill_0 : decode cDR_fill 0 = .ok (.aload_n 1, 1) := by decide +kernel
theorem dDR_fill_1 : decode cDR_fill 1 = .ok (.aload_n 0, 1) := by decide +kernel
theorem dDR_fill_2 : decode cDR_fill 2 = .ok (.getfield 7, 3) := by decide +kernel
theorem dDR_fill_5 : decode cDR_fill 5 = .ok (.aaload, 1) := by decide +kernel
theorem dDR_fill_6 : decode cDR_fill 6 = .ok (.astore_n 3, 1) := by decide +kernel
theorem dDR_fill_7 : decode cDR_fill 7 = .ok (.iconst 0, 1) := by decide +kernel
theorem dDR_fill_8 : decode cDR_fill 8 = .ok (.istore 4, 2) := by decide +kernel
theorem dDR_fill_10 : decode cDR_fill 10 = .ok (.iload 4, 2) := by decide +kernel
theorem dDR_fill_12 : decode cDR_fill 12 = .ok (.aload_n 3, 1) := by decide +kernel
theorem dDR_fill_13 : decode cDR_fill 13 = .ok (.invokevirtual 13, 3) := by decide +kernel
theorem dDR_fill_16 : decode cDR_fill 16 = .ok (.if_icmp .ge 28, 3) := by decide +kernel
theorem dDR_fill_19 : decode cDR_fill 19 = .ok (.aload_n 3, 1) := by decide +kernel
theorem dDR_fill_20 : decode cDR_fill 20 = .ok (.iload 4, 2) := by decide +kernel
theorem dDR_fill_22 : decode cDR_fill 22 = .ok (.invokevirtual 19, 3) := by decide +kernel
theorem dDR_fill_25 : decode cDR_fill 25 = .ok (.lconst 0, 1) := by decide +kernel
theorem dDR_fill_26 : decode cDR_fill 26 = .ok (.lcmp, 1) := by decide +kernel
theorem dDR_fill_27 : decode cDR_fill 27 = .ok (.ifCond .le 11, 3) := by decide +kernel
theorem dDR_fill_30 : decode cDR_fill 30 = .ok (.aload_n 2, 1) := by decide +kernel
theorem dDR_fill_31 : decode cDR_fill 31 = .ok (.aload_n 3, 1) := by decide +kernel
theorem dDR_fill_32 : decode cDR_fill 32 = .ok (.iload 4, 2) := by decide +kernel
theorem dDR_fill_34 : decode cDR_fill 34 = .ok (.lconst 1, 1) := by decide +kernel
theorem dDR_fill_35 : decode cDR_fill 35 = .ok (.invokevirtual 23, 3) := by decide +kernel
theorem dDR_fill_38 : decode cDR_fill 38 = .ok (.iinc 4 1, 3) := by decide +kernel
theorem dDR_fill_41 : decode cDR_fill 41 = .ok (.goto (-31), 3) := by decide +kernel
theorem dDR_fill_44 : decode cDR_fill 44 = .ok (.return_, 1) := by decide +kernel
theorem dDR_init_0 : decode cDR_init 0 = .ok (.aload_n 0, 1) := by decide +kernel
theorem dDR_init_1 : decode cDR_init 1 = .ok (.invokespecial 1, 3) := by decide +kernel
theorem dDR_init_4 : decode cDR_init 4 = .ok (.aload_n 0, 1) := by decide +kernel
theorem dDR_init_5 : decode cDR_init 5 = .ok (.iload_n 1, 1) := by decide +kernel
theorem dDR_init_6 : decode cDR_init 6 = .ok (.putfield 7, 3) := by decide +kernel
theorem dDR_init_9 : decode cDR_init 9 = .ok (.return_, 1) := by decide +kernel
theorem dFR_fill_0 : decode cFR_fill 0 = .ok (.aload_n 1, 1) := by decide +kernel
theorem dFR_fill_1 : decode cFR_fill 1 = .ok (.aload_n 0, 1) := by decide +kernel
theorem dFR_fill_2 : decode cFR_fill 2 = .ok (.getfield 7, 3) := by decide +kernel
theorem dFR_fill_5 : decode cFR_fill 5 = .ok (.aaload, 1) := by decide +kernel
theorem dFR_fill_6 : decode cFR_fill 6 = .ok (.astore_n 3, 1) := by decide +kernel
theorem dFR_fill_7 : decode cFR_fill 7 = .ok (.iconst 0, 1) := by decide +kernel
theorem dFR_fill_8 : decode cFR_fill 8 = .ok (.istore 4, 2) := by decide +kernel
theorem dFR_fill_10 : decode cFR_fill 10 = .ok (.iload 4, 2) := by decide +kernel
theorem dFR_fill_12 : decode cFR_fill 12 = .ok (.aload_n 3, 1) := by decide +kernel
theorem dFR_fill_13 : decode cFR_fill 13 = .ok (.invokevirtual 22, 3) := by decide +kernel
theorem dFR_fill_16 : decode cFR_fill 16 = .ok (.if_icmp .ge 39, 3) := by decide +kernel
theorem dFR_fill_19 : decode cFR_fill 19 = .ok (.aload_n 0, 1) := by decide +kernel
theorem dFR_fill_20 : decode cFR_fill 20 = .ok (.aload_n 3, 1) := by decide +kernel
theorem dFR_fill_21 : decode cFR_fill 21 = .ok (.iload 4, 2) := by decide +kernel
theorem dFR_fill_23 : decode cFR_fill 23 = .ok (.aload_n 0, 1) := by decide +kernel
theorem dFR_fill_24 : decode cFR_fill 24 = .ok (.getfield 13, 3) := by decide +kernel
theorem dFR_fill_27 : decode cFR_fill 27 = .ok (.invokevirtual 28, 3) := by decide +kernel
theorem dFR_fill_30 : decode cFR_fill 30 = .ok (.invokevirtual 32, 3) := by decide +kernel
theorem dFR_fill_33 : decode cFR_fill 33 = .ok (.ifCond .eq 16, 3) := by decide +kernel
theorem dFR_fill_36 : decode cFR_fill 36 = .ok (.aload_n 2, 1) := by decide +kernel
theorem dFR_fill_37 : decode cFR_fill 37 = .ok (.aload_n 3, 1) := by decide +kernel
theorem dFR_fill_38 : decode cFR_fill 38 = .ok (.iload 4, 2) := by decide +kernel
theorem dFR_fill_40 : decode cFR_fill 40 = .ok (.aload_n 3, 1) := by decide +kernel
theorem dFR_fill_41 : decode cFR_fill 41 = .ok (.iload 4, 2) := by decide +kernel
theorem dFR_fill_43 : decode cFR_fill 43 = .ok (.invokevirtual 36, 3) := by decide +kernel
theorem dFR_fill_46 : decode cFR_fill 46 = .ok (.invokevirtual 40, 3) := by decide +kernel
theorem dFR_fill_49 : decode cFR_fill 49 = .ok (.iinc 4 1, 3) := by decide +kernel
theorem dFR_fill_52 : decode cFR_fill 52 = .ok (.goto (-42), 3) := by decide +kernel
theorem dFR_fill_55 : decode cFR_fill 55 = .ok (.return_, 1) := by decide +kernel
theorem dFR_lets_0 : decode cFR_lets 0 = .ok (.aload_n 0, 1) := by decide +kernel
theorem dFR_lets_1 : decode cFR_lets 1 = .ok (.getfield 16, 3) := by decide +kernel
theorem dFR_lets_4 : decode cFR_lets 4 = .ok (.tableswitch 70 0 2 #[28, 42, 56], 28) := by decide +kernel
theorem dFR_lets_32 : decode cFR_lets 32 = .ok (.iload_n 1, 1) := by decide +kernel
theorem dFR_lets_33 : decode cFR_lets 33 = .ok (.aload_n 0, 1) := by decide +kernel
theorem dFR_lets_34 : decode cFR_lets 34 = .ok (.getfield 19, 3) := by decide +kernel
theorem dFR_lets_37 : decode cFR_lets 37 = .ok (.if_icmp .ne 7, 3) := by decide +kernel
theorem dFR_lets_40 : decode cFR_lets 40 = .ok (.iconst 1, 1) := by decide +kernel
theorem dFR_lets_41 : decode cFR_lets 41 = .ok (.goto 4, 3) := by decide +kernel
theorem dFR_lets_44 : decode cFR_lets 44 = .ok (.iconst 0, 1) := by decide +kernel
theorem dFR_lets_45 : decode cFR_lets 45 = .ok (.ireturn, 1) := by decide +kernel
theorem dFR_lets_46 : decode cFR_lets 46 = .ok (.iload_n 1, 1) := by decide +kernel
theorem dFR_lets_47 : decode cFR_lets 47 = .ok (.aload_n 0, 1) := by decide +kernel
theorem dFR_lets_48 : decode cFR_lets 48 = .ok (.getfield 19, 3) := by decide +kernel
theorem dFR_lets_51 : decode cFR_lets 51 = .ok (.if_icmp .ge 7, 3) := by decide +kernel
theorem dFR_lets_54 : decode cFR_lets 54 = .ok (.iconst 1, 1) := by decide +kernel
theorem dFR_lets_55 : decode cFR_lets 55 = .ok (.goto 4, 3) := by decide +kernel
theorem dFR_lets_58 : decode cFR_lets 58 = .ok (.iconst 0, 1) := by decide +kernel
theorem dFR_lets_59 : decode cFR_lets 59 = .ok (.ireturn, 1) := by decide +kernel
theorem dFR_lets_60 : decode cFR_lets 60 = .ok (.iload_n 1, 1) := by decide +kernel
theorem dFR_lets_61 : decode cFR_lets 61 = .ok (.aload_n 0, 1) := by decide +kernel
theorem dFR_lets_62 : decode cFR_lets 62 = .ok (.getfield 19, 3) := by decide +kernel
theorem dFR_lets_65 : decode cFR_lets 65 = .ok (.if_icmp .le 7, 3) := by decide +kernel
theorem dFR_lets_68 : decode cFR_lets 68 = .ok (.iconst 1, 1) := by decide +kernel
theorem dFR_lets_69 : decode cFR_lets 69 = .ok (.goto 4, 3) := by decide +kernel
theorem dFR_lets_72 : decode cFR_lets 72 = .ok (.iconst 0, 1) := by decide +kernel
theorem dFR_lets_73 : decode cFR_lets 73 = .ok (.ireturn, 1) := by decide +kernel
theorem dFR_lets_74 : decode cFR_lets 74 = .ok (.iload_n 1, 1) := by decide +kernel
theorem dFR_lets_75 : decode cFR_lets 75 = .ok (.aload_n 0, 1) := by decide +kernel
theorem dFR_lets_76 : decode cFR_lets 76 = .ok (.getfield 19, 3) := by decide +kernel
theorem dFR_lets_79 : decode cFR_lets 79 = .ok (.if_icmp .eq 7, 3) := by decide +kernel
theorem dFR_lets_82 : decode cFR_lets 82 = .ok (.iconst 1, 1) := by decide +kernel
theorem dFR_lets_83 : decode cFR_lets 83 = .ok (.goto 4, 3) := by decide +kernel
theorem dFR_lets_86 : decode cFR_lets 86 = .ok (.iconst 0, 1) := by decide +kernel
theorem dFR_lets_87 : decode cFR_lets 87 = .ok (.ireturn, 1) := by decide +kernel
theorem dFR_init_0 : decode cFR_init 0 = .ok (.aload_n 0, 1) := by decide +kernel
theorem dFR_init_1 : decode cFR_init 1 = .ok (.invokespecial 1, 3) := by decide +kernel
theorem dFR_init_4 : decode cFR_init 4 = .ok (.aload_n 0, 1) := by decide +kernel
theorem dFR_init_5 : decode cFR_init 5 = .ok (.iload_n 1, 1) := by decide +kernel
theorem dFR_init_6 : decode cFR_init 6 = .ok (.putfield 7, 3) := by decide +kernel
theorem dFR_init_9 : decode cFR_init 9 = .ok (.aload_n 0, 1) := by decide +kernel
theorem dFR_init_10 : decode cFR_init 10 = .ok (.iload_n 2, 1) := by decide +kernel
theorem dFR_init_11 : decode cFR_init 11 = .ok (.putfield 13, 3) := by decide +kernel
theorem dFR_init_14 : decode cFR_init 14 = .ok (.aload_n 0, 1) := by decide +kernel
theorem dFR_init_15 : decode cFR_init 15 = .ok (.iload_n 3, 1) := by decide +kernel
theorem dFR_init_16 : decode cFR_init 16 = .ok (.putfield 16, 3) := by decide +kernel
theorem dFR_init_19 : decode cFR_init 19 = .ok (.aload_n 0, 1) := by decide +kernel
theorem dFR_init_20 : decode cFR_init 20 = .ok (.iload 4, 2) := by decide +kernel
theorem dFR_init_22 : decode cFR_init 22 = .ok (.putfield 19, 3) := by decide +kernel
theorem dFR_init_25 : decode cFR_init 25 = .ok (.return_, 1) := by decide +kernel
theorem dMR_fill_0 : decode cMR_fill 0 = .ok (.aload_n 1, 1) := by decide +kernel
theorem dMR_fill_1 : decode cMR_fill 1 = .ok (.aload_n 0, 1) := by decide +kernel
theorem dMR_fill_2 : decode cMR_fill 2 = .ok (.getfield 7, 3) := by decide +kernel
theorem dMR_fill_5 : decode cMR_fill 5 = .ok (.aaload, 1) := by decide +kernel
theorem dMR_fill_6 : decode cMR_fill 6 = .ok (.astore_n 3, 1) := by decide +kernel
theorem dMR_fill_7 : decode cMR_fill 7 = .ok (.iconst 0, 1) := by decide +kernel
theorem dMR_fill_8 : decode cMR_fill 8 = .ok (.istore 4, 2) := by decide +kernel
theorem dMR_fill_10 : decode cMR_fill 10 = .ok (.iload 4, 2) := by decide +kernel
theorem dMR_fill_12 : decode cMR_fill 12 = .ok (.aload_n 3, 1) := by decide +kernel
theorem dMR_fill_13 : decode cMR_fill 13 = .ok (.invokevirtual 22, 3) := by decide +kernel
theorem dMR_fill_16 : decode cMR_fill 16 = .ok (.if_icmp .ge 49, 3) := by decide +kernel
theorem dMR_fill_19 : decode cMR_fill 19 = .ok (.aload_n 2, 1) := by decide +kernel
theorem dMR_fill_20 : decode cMR_fill 20 = .ok (.aload_n 3, 1) := by decide +kernel
theorem dMR_fill_21 : decode cMR_fill 21 = .ok (.iload 4, 2) := by decide +kernel
theorem dMR_fill_23 : decode cMR_fill 23 = .ok (.aload_n 0, 1) := by decide +kernel
theorem dMR_fill_24 : decode cMR_fill 24 = .ok (.getfield 13, 3) := by decide +kernel
theorem dMR_fill_27 : decode cMR_fill 27 = .ok (.invokestatic 28, 3) := by decide +kernel
theorem dMR_fill_30 : decode cMR_fill 30 = .ok (.aload_n 3, 1) := by decide +kernel
theorem dMR_fill_31 : decode cMR_fill 31 = .ok (.iload 4, 2) := by decide +kernel
theorem dMR_fill_33 : decode cMR_fill 33 = .ok (.aload_n 0, 1) := by decide +kernel
theorem dMR_fill_34 : decode cMR_fill 34 = .ok (.getfield 16, 3) := by decide +kernel
theorem dMR_fill_37 : decode cMR_fill 37 = .ok (.invokestatic 28, 3) := by decide +kernel
theorem dMR_fill_40 : decode cMR_fill 40 = .ok (.aload_n 3, 1) := by decide +kernel
theorem dMR_fill_41 : decode cMR_fill 41 = .ok (.iload 4, 2) := by decide +kernel
theorem dMR_fill_43 : decode cMR_fill 43 = .ok (.aload_n 0, 1) := by decide +kernel
theorem dMR_fill_44 : decode cMR_fill 44 = .ok (.getfield 19, 3) := by decide +kernel
theorem dMR_fill_47 : decode cMR_fill 47 = .ok (.invokestatic 28, 3) := by decide +kernel
theorem dMR_fill_50 : decode cMR_fill 50 = .ok (.aload_n 3, 1) := by decide +kernel
theorem dMR_fill_51 : decode cMR_fill 51 = .ok (.iload 4, 2) := by decide +kernel
theorem dMR_fill_53 : decode cMR_fill 53 = .ok (.invokevirtual 32, 3) := by decide +kernel
theorem dMR_fill_56 : decode cMR_fill 56 = .ok (.invokevirtual 36, 3) := by decide +kernel
theorem dMR_fill_59 : decode cMR_fill 59 = .ok (.iinc 4 1, 3) := by decide +kernel
theorem dMR_fill_62 : decode cMR_fill 62 = .ok (.goto (-52), 3) := by decide +kernel
theorem dMR_fill_65 : decode cMR_fill 65 = .ok (.return_, 1) := by decide +kernel
theorem dMR_coded_0 : decode cMR_coded 0 = .ok (.iload_n 2, 1) := by decide +kernel
theorem dMR_coded_1 : decode cMR_coded 1 = .ok (.tableswitch 57 3 5 #[27, 29, 43], 27) := by decide +kernel
theorem dMR_coded_28 : decode cMR_coded 28 = .ok (.iconst 0, 1) := by decide +kernel
theorem dMR_coded_29 : decode cMR_coded 29 = .ok (.ireturn, 1) := by decide +kernel
theorem dMR_coded_30 : decode cMR_coded 30 = .ok (.aload_n 0, 1) := by decide +kernel
theorem dMR_coded_31 : decode cMR_coded 31 = .ok (.iload_n 1, 1) := by decide +kernel
theorem dMR_coded_32 : decode cMR_coded 32 = .ok (.iconst 0, 1) := by decide +kernel
theorem dMR_coded_33 : decode cMR_coded 33 = .ok (.invokevirtual 40, 3) := by decide +kernel
theorem dMR_coded_36 : decode cMR_coded 36 = .ok (.aload_n 0, 1) := by decide +kernel
theorem dMR_coded_37 : decode cMR_coded 37 = .ok (.iload_n 1, 1) := by decide +kernel
theorem dMR_coded_38 : decode cMR_coded 38 = .ok (.iconst 1, 1) := by decide +kernel
theorem dMR_coded_39 : decode cMR_coded 39 = .ok (.invokevirtual 40, 3) := by decide +kernel
theorem dMR_coded_42 : decode cMR_coded 42 = .ok (.iadd, 1) := by decide +kernel
theorem dMR_coded_43 : decode cMR_coded 43 = .ok (.ireturn, 1) := by decide +kernel
theorem dMR_coded_44 : decode cMR_coded 44 = .ok (.aload_n 0, 1) := by decide +kernel
theorem dMR_coded_45 : decode cMR_coded 45 = .ok (.iload_n 1, 1) := by decide +kernel
theorem dMR_coded_46 : decode cMR_coded 46 = .ok (.iconst 0, 1) := by decide +kernel
theorem dMR_coded_47 : decode cMR_coded 47 = .ok (.invokevirtual 40, 3) := by decide +kernel
theorem dMR_coded_50 : decode cMR_coded 50 = .ok (.aload_n 0, 1) := by decide +kernel
theorem dMR_coded_51 : decode cMR_coded 51 = .ok (.iload_n 1, 1) := by decide +kernel
theorem dMR_coded_52 : decode cMR_coded 52 = .ok (.iconst 1, 1) := by decide +kernel
theorem dMR_coded_53 : decode cMR_coded 53 = .ok (.invokevirtual 40, 3) := by decide +kernel
theorem dMR_coded_56 : decode cMR_coded 56 = .ok (.isub, 1) := by decide +kernel
theorem dMR_coded_57 : decode cMR_coded 57 = .ok (.ireturn, 1) := by decide +kernel
theorem dMR_coded_58 : decode cMR_coded 58 = .ok (.aload_n 0, 1) := by decide +kernel
theorem dMR_coded_59 : decode cMR_coded 59 = .ok (.iload_n 1, 1) := by decide +kernel
theorem dMR_coded_60 : decode cMR_coded 60 = .ok (.iload_n 2, 1) := by decide +kernel
theorem dMR_coded_61 : decode cMR_coded 61 = .ok (.invokevirtual 40, 3) := by decide +kernel
theorem dMR_coded_64 : decode cMR_coded 64 = .ok (.ireturn, 1) := by decide +kernel
theorem dMR_init_0 : decode cMR_init 0 = .ok (.aload_n 0, 1) := by decide +kernel
theorem dMR_init_1 : decode cMR_init 1 = .ok (.invokespecial 1, 3) := by decide +kernel
theorem dMR_init_4 : decode cMR_init 4 = .ok (.aload_n 0, 1) := by decide +kernel
theorem dMR_init_5 : decode cMR_init 5 = .ok (.iload_n 1, 1) := by decide +kernel
theorem dMR_init_6 : decode cMR_init 6 = .ok (.putfield 7, 3) := by decide +kernel
theorem dMR_init_9 : decode cMR_init 9 = .ok (.aload_n 0, 1) := by decide +kernel
theorem dMR_init_10 : decode cMR_init 10 = .ok (.iload_n 2, 1) := by decide +kernel
theorem dMR_init_11 : decode cMR_init 11 = .ok (.putfield 13, 3) := by decide +kernel
theorem dMR_init_14 : decode cMR_init 14 = .ok (.aload_n 0, 1) := by decide +kernel
theorem dMR_init_15 : decode cMR_init 15 = .ok (.iload_n 3, 1) := by decide +kernel
theorem dMR_init_16 : decode cMR_init 16 = .ok (.putfield 16, 3) := by decide +kernel
theorem dMR_init_19 : decode cMR_init 19 = .ok (.aload_n 0, 1) := by decide +kernel
theorem dMR_init_20 : decode cMR_init 20 = .ok (.iload 4, 2) := by decide +kernel
theorem dMR_init_22 : decode cMR_init 22 = .ok (.putfield 19, 3) := by decide +kernel
theorem dMR_init_25 : decode cMR_init 25 = .ok (.return_, 1) := by decide +kernel
theorem dRC_init_0 : decode cRC_init 0 = .ok (.aload_n 0, 1) := by decide +kernel
theorem dRC_init_1 : decode cRC_init 1 = .ok (.invokespecial 1, 3) := by decide +kernel
theorem dRC_init_4 : decode cRC_init 4 = .ok (.return_, 1) := by decide +kernel
end
section
theorem dGR_fill_0 : decode cGR_fill 0 = .ok (.aload_n 1, 1) := by decide +kernel
theorem dGR_fill_1 : decode cGR_fill 1 = .ok (.aload_n 0, 1) := by decide +kernel
theorem dGR_fill_2 : decode cGR_fill 2 = .ok (.getfield 7, 3) := by decide +kernel
theorem dGR_fill_5 : decode cGR_fill 5 = .ok (.aaload, 1) := by decide +kernel
theorem dGR_fill_6 : decode cGR_fill 6 = .ok (.astore_n 3, 1) := by decide +kernel
theorem dGR_fill_7 : decode cGR_fill 7 = .ok (.iconst 0, 1) := by decide +kernel
theorem dGR_fill_8 : decode cGR_fill 8 = .ok (.istore 4, 2) := by decide +kernel
theorem dGR_fill_10 : decode cGR_fill 10 = .ok (.iload 4, 2) := by decide +kernel
theorem dGR_fill_12 : decode cGR_fill 12 = .ok (.aload_n 3, 1) := by decide +kernel
theorem dGR_fill_13 : decode cGR_fill 13 = .ok (.invokevirtual 22, 3) := by decide +kernel
theorem dGR_fill_16 : decode cGR_fill 16 = .ok (.if_icmp .ge 53, 3) := by decide +kernel
theorem dGR_fill_19 : decode cGR_fill 19 = .ok (.aload_n 3, 1) := by decide +kernel
theorem dGR_fill_20 : decode cGR_fill 20 = .ok (.iload 4, 2) := by decide +kernel
theorem dGR_fill_22 : decode cGR_fill 22 = .ok (.invokevirtual 28, 3) := by decide +kernel
theorem dGR_fill_25 : decode cGR_fill 25 = .ok (.lconst 0, 1) := by decide +kernel
theorem dGR_fill_26 : decode cGR_fill 26 = .ok (.lcmp, 1) := by decide +kernel
theorem dGR_fill_27 : decode cGR_fill 27 = .ok (.ifCond .le 36, 3) := by decide +kernel
theorem dGR_fill_30 : decode cGR_fill 30 = .ok (.aload_n 0, 1) := by decide +kernel
theorem dGR_fill_31 : decode cGR_fill 31 = .ok (.aload_n 3, 1) := by decide +kernel
theorem dGR_fill_32 : decode cGR_fill 32 = .ok (.iload 4, 2) := by decide +kernel
theorem dGR_fill_34 : decode cGR_fill 34 = .ok (.invokevirtual 32, 3) := by decide +kernel
theorem dGR_fill_37 : decode cGR_fill 37 = .ok (.ifCond .eq 26, 3) := by decide +kernel
theorem dGR_fill_40 : decode cGR_fill 40 = .ok (.aload_n 2, 1) := by decide +kernel
theorem dGR_fill_41 : decode cGR_fill 41 = .ok (.aload_n 3, 1) := by decide +kernel
theorem dGR_fill_42 : decode cGR_fill 42 = .ok (.iload 4, 2) := by decide +kernel
theorem dGR_fill_44 : decode cGR_fill 44 = .ok (.aload_n 0, 1) := by decide +kernel
theorem dGR_fill_45 : decode cGR_fill 45 = .ok (.getfield 13, 3) := by decide +kernel
theorem dGR_fill_48 : decode cGR_fill 48 = .ok (.invokevirtual 36, 3) := by decide +kernel
theorem dGR_fill_51 : decode cGR_fill 51 = .ok (.aload_n 0, 1) := by decide +kernel
theorem dGR_fill_52 : decode cGR_fill 52 = .ok (.aload_n 3, 1) := by decide +kernel
theorem dGR_fill_53 : decode cGR_fill 53 = .ok (.iload 4, 2) := by decide +kernel
theorem dGR_fill_55 : decode cGR_fill 55 = .ok (.invokevirtual 40, 3) := by decide +kernel
theorem dGR_fill_58 : decode cGR_fill 58 = .ok (.iconst 0, 1) := by decide +kernel
theorem dGR_fill_59 : decode cGR_fill 59 = .ok (.lconst 1, 1) := by decide +kernel
theorem dGR_fill_60 : decode cGR_fill 60 = .ok (.invokevirtual 44, 3) := by decide +kernel
theorem dGR_fill_63 : decode cGR_fill 63 = .ok (.iinc 4 1, 3) := by decide +kernel
theorem dGR_fill_66 : decode cGR_fill 66 = .ok (.goto (-56), 3) := by decide +kernel
theorem dGR_fill_69 : decode cGR_fill 69 = .ok (.return_, 1) := by decide +kernel
theorem dGR_isFirstOfItsKey_0 : decode cGR_isFirstOfItsKey 0 = .ok (.iconst 0, 1) := by decide +kernel
theorem dGR_isFirstOfItsKey_1 : decode cGR_isFirstOfItsKey 1 = .ok (.istore_n 3, 1) := by decide +kernel
theorem dGR_isFirstOfItsKey_2 : decode cGR_isFirstOfItsKey 2 = .ok (.iload_n 3, 1) := by decide +kernel
theorem dGR_isFirstOfItsKey_3 : decode cGR_isFirstOfItsKey 3 = .ok (.iload_n 2, 1) := by decide +kernel
theorem dGR_isFirstOfItsKey_4 : decode cGR_isFirstOfItsKey 4 = .ok (.if_icmp .ge 29, 3) := by decide +kernel
theorem dGR_isFirstOfItsKey_7 : decode cGR_isFirstOfItsKey 7 = .ok (.aload_n 0, 1) := by decide +kernel
theorem dGR_isFirstOfItsKey_8 : decode cGR_isFirstOfItsKey 8 = .ok (.aload_n 1, 1) := by decide +kernel
theorem dGR_isFirstOfItsKey_9 : decode cGR_isFirstOfItsKey 9 = .ok (.iload_n 3, 1) := by decide +kernel
theorem dGR_isFirstOfItsKey_10 : decode cGR_isFirstOfItsKey 10 = .ok (.aload_n 1, 1) := by decide +kernel
theorem dGR_isFirstOfItsKey_11 : decode cGR_isFirstOfItsKey 11 = .ok (.iload_n 2, 1) := by decide +kernel
theorem dGR_isFirstOfItsKey_12 : decode cGR_isFirstOfItsKey 12 = .ok (.aload_n 0, 1) := by decide +kernel
theorem dGR_isFirstOfItsKey_13 : decode cGR_isFirstOfItsKey 13 = .ok (.getfield 13, 3) := by decide +kernel
theorem dGR_isFirstOfItsKey_16 : decode cGR_isFirstOfItsKey 16 = .ok (.invokevirtual 36, 3) := by decide +kernel
theorem dGR_isFirstOfItsKey_19 : decode cGR_isFirstOfItsKey 19 = .ok (.invokevirtual 48, 3) := by decide +kernel
theorem dGR_isFirstOfItsKey_22 : decode cGR_isFirstOfItsKey 22 = .ok (.ifCond .eq 5, 3) := by decide +kernel
theorem dGR_isFirstOfItsKey_25 : decode cGR_isFirstOfItsKey 25 = .ok (.iconst 0, 1) := by decide +kernel
theorem dGR_isFirstOfItsKey_26 : decode cGR_isFirstOfItsKey 26 = .ok (.ireturn, 1) := by decide +kernel
theorem dGR_isFirstOfItsKey_27 : decode cGR_isFirstOfItsKey 27 = .ok (.iinc 3 1, 3) := by decide +kernel
theorem dGR_isFirstOfItsKey_30 : decode cGR_isFirstOfItsKey 30 = .ok (.goto (-28), 3) := by decide +kernel
theorem dGR_isFirstOfItsKey_33 : decode cGR_isFirstOfItsKey 33 = .ok (.iconst 1, 1) := by decide +kernel
theorem dGR_isFirstOfItsKey_34 : decode cGR_isFirstOfItsKey 34 = .ok (.ireturn, 1) := by decide +kernel
theorem dGR_isWith_0 : decode cGR_isWith 0 = .ok (.aload_n 1, 1) := by decide +kernel
theorem dGR_isWith_1 : decode cGR_isWith 1 = .ok (.iload_n 2, 1) := by decide +kernel
theorem dGR_isWith_2 : decode cGR_isWith 2 = .ok (.invokevirtual 28, 3) := by decide +kernel
theorem dGR_isWith_5 : decode cGR_isWith 5 = .ok (.lconst 0, 1) := by decide +kernel
theorem dGR_isWith_6 : decode cGR_isWith 6 = .ok (.lcmp, 1) := by decide +kernel
theorem dGR_isWith_7 : decode cGR_isWith 7 = .ok (.ifCond .le 20, 3) := by decide +kernel
theorem dGR_isWith_10 : decode cGR_isWith 10 = .ok (.aload_n 1, 1) := by decide +kernel
theorem dGR_isWith_11 : decode cGR_isWith 11 = .ok (.iload_n 2, 1) := by decide +kernel
theorem dGR_isWith_12 : decode cGR_isWith 12 = .ok (.aload_n 0, 1) := by decide +kernel
theorem dGR_isWith_13 : decode cGR_isWith 13 = .ok (.getfield 13, 3) := by decide +kernel
theorem dGR_isWith_16 : decode cGR_isWith 16 = .ok (.invokevirtual 36, 3) := by decide +kernel
theorem dGR_isWith_19 : decode cGR_isWith 19 = .ok (.iload_n 3, 1) := by decide +kernel
theorem dGR_isWith_20 : decode cGR_isWith 20 = .ok (.if_icmp .ne 7, 3) := by decide +kernel
theorem dGR_isWith_23 : decode cGR_isWith 23 = .ok (.iconst 1, 1) := by decide +kernel
theorem dGR_isWith_24 : decode cGR_isWith 24 = .ok (.goto 4, 3) := by decide +kernel
theorem dGR_isWith_27 : decode cGR_isWith 27 = .ok (.iconst 0, 1) := by decide +kernel
theorem dGR_isWith_28 : decode cGR_isWith 28 = .ok (.ireturn, 1) := by decide +kernel
theorem dGR_valueFrom_0 : decode cGR_valueFrom 0 = .ok (.aload_n 1, 1) := by decide +kernel
theorem dGR_valueFrom_1 : decode cGR_valueFrom 1 = .ok (.iload_n 2, 1) := by decide +kernel
theorem dGR_valueFrom_2 : decode cGR_valueFrom 2 = .ok (.aload_n 0, 1) := by decide +kernel
theorem dGR_valueFrom_3 : decode cGR_valueFrom 3 = .ok (.getfield 13, 3) := by decide +kernel
theorem dGR_valueFrom_6 : decode cGR_valueFrom 6 = .ok (.invokevirtual 36, 3) := by decide +kernel
theorem dGR_valueFrom_9 : decode cGR_valueFrom 9 = .ok (.istore_n 3, 1) := by decide +kernel
theorem dGR_valueFrom_10 : decode cGR_valueFrom 10 = .ok (.aload_n 0, 1) := by decide +kernel
theorem dGR_valueFrom_11 : decode cGR_valueFrom 11 = .ok (.aload_n 1, 1) := by decide +kernel
theorem dGR_valueFrom_12 : decode cGR_valueFrom 12 = .ok (.iload_n 2, 1) := by decide +kernel
theorem dGR_valueFrom_13 : decode cGR_valueFrom 13 = .ok (.invokevirtual 52, 3) := by decide +kernel
theorem dGR_valueFrom_16 : decode cGR_valueFrom 16 = .ok (.istore 4, 2) := by decide +kernel
theorem dGR_valueFrom_18 : decode cGR_valueFrom 18 = .ok (.iload_n 2, 1) := by decide +kernel
theorem dGR_valueFrom_19 : decode cGR_valueFrom 19 = .ok (.iconst 1, 1) := by decide +kernel
theorem dGR_valueFrom_20 : decode cGR_valueFrom 20 = .ok (.iadd, 1) := by decide +kernel
theorem dGR_valueFrom_21 : decode cGR_valueFrom 21 = .ok (.istore 5, 2) := by decide +kernel
theorem dGR_valueFrom_23 : decode cGR_valueFrom 23 = .ok (.iload 5, 2) := by decide +kernel
theorem dGR_valueFrom_25 : decode cGR_valueFrom 25 = .ok (.aload_n 1, 1) := by decide +kernel
theorem dGR_valueFrom_26 : decode cGR_valueFrom 26 = .ok (.invokevirtual 22, 3) := by decide +kernel
theorem dGR_valueFrom_29 : decode cGR_valueFrom 29 = .ok (.if_icmp .ge 35, 3) := by decide +kernel
theorem dGR_valueFrom_32 : decode cGR_valueFrom 32 = .ok (.aload_n 0, 1) := by decide +kernel
theorem dGR_valueFrom_33 : decode cGR_valueFrom 33 = .ok (.aload_n 1, 1) := by decide +kernel
theorem dGR_valueFrom_34 : decode cGR_valueFrom 34 = .ok (.iload 5, 2) := by decide +kernel
theorem dGR_valueFrom_36 : decode cGR_valueFrom 36 = .ok (.iload_n 3, 1) := by decide +kernel
theorem dGR_valueFrom_37 : decode cGR_valueFrom 37 = .ok (.invokevirtual 48, 3) := by decide +kernel
theorem dGR_valueFrom_40 : decode cGR_valueFrom 40 = .ok (.ifCond .eq 18, 3) := by decide +kernel
theorem dGR_valueFrom_43 : decode cGR_valueFrom 43 = .ok (.aload_n 0, 1) := by decide +kernel
theorem dGR_valueFrom_44 : decode cGR_valueFrom 44 = .ok (.iload 4, 2) := by decide +kernel
theorem dGR_valueFrom_46 : decode cGR_valueFrom 46 = .ok (.aload_n 0, 1) := by decide +kernel
theorem dGR_valueFrom_47 : decode cGR_valueFrom 47 = .ok (.aload_n 1, 1) := by decide +kernel
theorem dGR_valueFrom_48 : decode cGR_valueFrom 48 = .ok (.iload 5, 2) := by decide +kernel
theorem dGR_valueFrom_50 : decode cGR_valueFrom 50 = .ok (.invokevirtual 52, 3) := by decide +kernel
theorem dGR_valueFrom_53 : decode cGR_valueFrom 53 = .ok (.invokevirtual 55, 3) := by decide +kernel
theorem dGR_valueFrom_56 : decode cGR_valueFrom 56 = .ok (.istore 4, 2) := by decide +kernel
theorem dGR_valueFrom_58 : decode cGR_valueFrom 58 = .ok (.iinc 5 1, 3) := by decide +kernel
theorem dGR_valueFrom_61 : decode cGR_valueFrom 61 = .ok (.goto (-38), 3) := by decide +kernel
theorem dGR_valueFrom_64 : decode cGR_valueFrom 64 = .ok (.iload 4, 2) := by decide +kernel
theorem dGR_valueFrom_66 : decode cGR_valueFrom 66 = .ok (.ireturn, 1) := by decide +kernel
theorem dGR_startValue_0 : decode cGR_startValue 0 = .ok (.aload_n 0, 1) := by decide +kernel
theorem dGR_startValue_1 : decode cGR_startValue 1 = .ok (.getfield 19, 3) := by decide +kernel
theorem dGR_startValue_4 : decode cGR_startValue 4 = .ok (.lookupswitch 53 #[(0, 28), (1, 35)], 28) := by decide +kernel
theorem dGR_startValue_32 : decode cGR_startValue 32 = .ok (.aload_n 1, 1) := by decide +kernel
theorem dGR_startValue_33 : decode cGR_startValue 33 = .ok (.iload_n 2, 1) := by decide +kernel
theorem dGR_startValue_34 : decode cGR_startValue 34 = .ok (.invokevirtual 28, 3) := by decide +kernel
theorem dGR_startValue_37 : decode cGR_startValue 37 = .ok (.l2i, 1) := by decide +kernel
theorem dGR_startValue_38 : decode cGR_startValue 38 = .ok (.ireturn, 1) := by decide +kernel
theorem dGR_startValue_39 : decode cGR_startValue 39 = .ok (.aload_n 1, 1) := by decide +kernel
theorem dGR_startValue_40 : decode cGR_startValue 40 = .ok (.iload_n 2, 1) := by decide +kernel
theorem dGR_startValue_41 : decode cGR_startValue 41 = .ok (.invokevirtual 28, 3) := by decide +kernel
theorem dGR_startValue_44 : decode cGR_startValue 44 = .ok (.aload_n 1, 1) := by decide +kernel
theorem dGR_startValue_45 : decode cGR_startValue 45 = .ok (.iload_n 2, 1) := by decide +kernel
theorem dGR_startValue_46 : decode cGR_startValue 46 = .ok (.aload_n 0, 1) := by decide +kernel
theorem dGR_startValue_47 : decode cGR_startValue 47 = .ok (.getfield 16, 3) := by decide +kernel
theorem dGR_startValue_50 : decode cGR_startValue 50 = .ok (.invokevirtual 36, 3) := by decide +kernel
theorem dGR_startValue_53 : decode cGR_startValue 53 = .ok (.i2l, 1) := by decide +kernel
theorem dGR_startValue_54 : decode cGR_startValue 54 = .ok (.lmul, 1) := by decide +kernel
theorem dGR_startValue_55 : decode cGR_startValue 55 = .ok (.l2i, 1) := by decide +kernel
theorem dGR_startValue_56 : decode cGR_startValue 56 = .ok (.ireturn, 1) := by decide +kernel
theorem dGR_startValue_57 : decode cGR_startValue 57 = .ok (.aload_n 1, 1) := by decide +kernel
theorem dGR_startValue_58 : decode cGR_startValue 58 = .ok (.iload_n 2, 1) := by decide +kernel
theorem dGR_startValue_59 : decode cGR_startValue 59 = .ok (.aload_n 0, 1) := by decide +kernel
theorem dGR_startValue_60 : decode cGR_startValue 60 = .ok (.getfield 16, 3) := by decide +kernel
theorem dGR_startValue_63 : decode cGR_startValue 63 = .ok (.invokevirtual 36, 3) := by decide +kernel
theorem dGR_startValue_66 : decode cGR_startValue 66 = .ok (.ireturn, 1) := by decide +kernel
theorem dGR_joined_0 : decode cGR_joined 0 = .ok (.aload_n 0, 1) := by decide +kernel
theorem dGR_joined_1 : decode cGR_joined 1 = .ok (.getfield 19, 3) := by decide +kernel
theorem dGR_joined_4 : decode cGR_joined 4 = .ok (.lookupswitch 40 #[(2, 28), (3, 34)], 28) := by decide +kernel
theorem dGR_joined_32 : decode cGR_joined 32 = .ok (.iload_n 1, 1) := by decide +kernel
theorem dGR_joined_33 : decode cGR_joined 33 = .ok (.iload_n 2, 1) := by decide +kernel
theorem dGR_joined_34 : decode cGR_joined 34 = .ok (.invokestatic 58, 3) := by decide +kernel
theorem dGR_joined_37 : decode cGR_joined 37 = .ok (.ireturn, 1) := by decide +kernel
theorem dGR_joined_38 : decode cGR_joined 38 = .ok (.iload_n 1, 1) := by decide +kernel
theorem dGR_joined_39 : decode cGR_joined 39 = .ok (.iload_n 2, 1) := by decide +kernel
theorem dGR_joined_40 : decode cGR_joined 40 = .ok (.invokestatic 63, 3) := by decide +kernel
theorem dGR_joined_43 : decode cGR_joined 43 = .ok (.ireturn, 1) := by decide +kernel
theorem dGR_joined_44 : decode cGR_joined 44 = .ok (.iload_n 1, 1) := by decide +kernel
theorem dGR_joined_45 : decode cGR_joined 45 = .ok (.iload_n 2, 1) := by decide +kernel
theorem dGR_joined_46 : decode cGR_joined 46 = .ok (.iadd, 1) := by decide +kernel
theorem dGR_joined_47 : decode cGR_joined 47 = .ok (.ireturn, 1) := by decide +kernel
theorem dGR_init_0 : decode cGR_init 0 = .ok (.aload_n 0, 1) := by decide +kernel
theorem dGR_init_1 : decode cGR_init 1 = .ok (.invokespecial 1, 3) := by decide +kernel
theorem dGR_init_4 : decode cGR_init 4 = .ok (.aload_n 0, 1) := by decide +kernel
theorem dGR_init_5 : decode cGR_init 5 = .ok (.iload_n 1, 1) := by decide +kernel
theorem dGR_init_6 : decode cGR_init 6 = .ok (.putfield 7, 3) := by decide +kernel
theorem dGR_init_9 : decode cGR_init 9 = .ok (.aload_n 0, 1) := by decide +kernel
theorem dGR_init_10 : decode cGR_init 10 = .ok (.iload_n 2, 1) := by decide +kernel
theorem dGR_init_11 : decode cGR_init 11 = .ok (.putfield 13, 3) := by decide +kernel
theorem dGR_init_14 : decode cGR_init 14 = .ok (.aload_n 0, 1) := by decide +kernel
theorem dGR_init_15 : decode cGR_init 15 = .ok (.iload_n 3, 1) := by decide +kernel
theorem dGR_init_16 : decode cGR_init 16 = .ok (.putfield 16, 3) := by decide +kernel
theorem dGR_init_19 : decode cGR_init 19 = .ok (.aload_n 0, 1) := by decide +kernel
theorem dGR_init_20 : decode cGR_init 20 = .ok (.iload 4, 2) := by decide +kernel
theorem dGR_init_22 : decode cGR_init 22 = .ok (.putfield 19, 3) := by decide +kernel
theorem dGR_init_25 : decode cGR_init 25 = .ok (.return_, 1) := by decide +kernel
theorem dJR_fill_0 : decode cJR_fill 0 = .ok (.aload_n 1, 1) := by decide +kernel
theorem dJR_fill_1 : decode cJR_fill 1 = .ok (.aload_n 0, 1) := by decide +kernel
theorem dJR_fill_2 : decode cJR_fill 2 = .ok (.getfield 9, 3) := by decide +kernel
theorem dJR_fill_5 : decode cJR_fill 5 = .ok (.aaload, 1) := by decide +kernel
theorem dJR_fill_6 : decode cJR_fill 6 = .ok (.astore_n 3, 1) := by decide +kernel
theorem dJR_fill_7 : decode cJR_fill 7 = .ok (.aload_n 1, 1) := by decide +kernel
theorem dJR_fill_8 : decode cJR_fill 8 = .ok (.aload_n 0, 1) := by decide +kernel
theorem dJR_fill_9 : decode cJR_fill 9 = .ok (.getfield 15, 3) := by decide +kernel
theorem dJR_fill_12 : decode cJR_fill 12 = .ok (.aaload, 1) := by decide +kernel
theorem dJR_fill_13 : decode cJR_fill 13 = .ok (.astore 4, 2) := by decide +kernel
theorem dJR_fill_15 : decode cJR_fill 15 = .ok (.aload_n 0, 1) := by decide +kernel
theorem dJR_fill_16 : decode cJR_fill 16 = .ok (.getfield 24, 3) := by decide +kernel
theorem dJR_fill_19 : decode cJR_fill 19 = .ok (.bipush 36, 2) := by decide +kernel
theorem dJR_fill_21 : decode cJR_fill 21 = .ok (.idiv, 1) := by decide +kernel
theorem dJR_fill_22 : decode cJR_fill 22 = .ok (.istore 5, 2) := by decide +kernel
theorem dJR_fill_24 : decode cJR_fill 24 = .ok (.aload_n 0, 1) := by decide +kernel
theorem dJR_fill_25 : decode cJR_fill 25 = .ok (.getfield 24, 3) := by decide +kernel
theorem dJR_fill_28 : decode cJR_fill 28 = .ok (.bipush 6, 2) := by decide +kernel
theorem dJR_fill_30 : decode cJR_fill 30 = .ok (.idiv, 1) := by decide +kernel
theorem dJR_fill_31 : decode cJR_fill 31 = .ok (.bipush 6, 2) := by decide +kernel
theorem dJR_fill_33 : decode cJR_fill 33 = .ok (.irem, 1) := by decide +kernel
theorem dJR_fill_34 : decode cJR_fill 34 = .ok (.istore 6, 2) := by decide +kernel
theorem dJR_fill_36 : decode cJR_fill 36 = .ok (.aload_n 0, 1) := by decide +kernel
theorem dJR_fill_37 : decode cJR_fill 37 = .ok (.getfield 24, 3) := by decide +kernel
theorem dJR_fill_40 : decode cJR_fill 40 = .ok (.bipush 6, 2) := by decide +kernel
theorem dJR_fill_42 : decode cJR_fill 42 = .ok (.irem, 1) := by decide +kernel
theorem dJR_fill_43 : decode cJR_fill 43 = .ok (.istore 7, 2) := by decide +kernel
theorem dJR_fill_45 : decode cJR_fill 45 = .ok (.iconst 0, 1) := by decide +kernel
theorem dJR_fill_46 : decode cJR_fill 46 = .ok (.istore 8, 2) := by decide +kernel
theorem dJR_fill_48 : decode cJR_fill 48 = .ok (.iload 8, 2) := by decide +kernel
theorem dJR_fill_50 : decode cJR_fill 50 = .ok (.aload_n 3, 1) := by decide +kernel
theorem dJR_fill_51 : decode cJR_fill 51 = .ok (.invokevirtual 27, 3) := by decide +kernel
theorem dJR_fill_54 : decode cJR_fill 54 = .ok (.if_icmp .ge 106, 3) := by decide +kernel
theorem dJR_fill_57 : decode cJR_fill 57 = .ok (.iconst 0, 1) := by decide +kernel
theorem dJR_fill_58 : decode cJR_fill 58 = .ok (.istore 9, 2) := by decide +kernel
theorem dJR_fill_60 : decode cJR_fill 60 = .ok (.iload 9, 2) := by decide +kernel
theorem dJR_fill_62 : decode cJR_fill 62 = .ok (.aload 4, 2) := by decide +kernel
theorem dJR_fill_64 : decode cJR_fill 64 = .ok (.invokevirtual 27, 3) := by decide +kernel
theorem dJR_fill_67 : decode cJR_fill 67 = .ok (.if_icmp .ge 87, 3) := by decide +kernel
theorem dJR_fill_70 : decode cJR_fill 70 = .ok (.aload_n 3, 1) := by decide +kernel
theorem dJR_fill_71 : decode cJR_fill 71 = .ok (.iload 8, 2) := by decide +kernel
theorem dJR_fill_73 : decode cJR_fill 73 = .ok (.aload_n 0, 1) := by decide +kernel
theorem dJR_fill_74 : decode cJR_fill 74 = .ok (.getfield 18, 3) := by decide +kernel
theorem dJR_fill_77 : decode cJR_fill 77 = .ok (.invokevirtual 33, 3) := by decide +kernel
theorem dJR_fill_80 : decode cJR_fill 80 = .ok (.aload 4, 2) := by decide +kernel
theorem dJR_fill_82 : decode cJR_fill 82 = .ok (.iload 9, 2) := by decide +kernel
theorem dJR_fill_84 : decode cJR_fill 84 = .ok (.aload_n 0, 1) := by decide +kernel
theorem dJR_fill_85 : decode cJR_fill 85 = .ok (.getfield 21, 3) := by decide +kernel
theorem dJR_fill_88 : decode cJR_fill 88 = .ok (.invokevirtual 33, 3) := by decide +kernel
theorem dJR_fill_91 : decode cJR_fill 91 = .ok (.if_icmp .ne 57, 3) := by decide +kernel
theorem dJR_fill_94 : decode cJR_fill 94 = .ok (.aload_n 2, 1) := by decide +kernel
theorem dJR_fill_95 : decode cJR_fill 95 = .ok (.aload_n 3, 1) := by decide +kernel
theorem dJR_fill_96 : decode cJR_fill 96 = .ok (.iload 8, 2) := by decide +kernel
theorem dJR_fill_98 : decode cJR_fill 98 = .ok (.aload 4, 2) := by decide +kernel
theorem dJR_fill_100 : decode cJR_fill 100 = .ok (.iload 9, 2) := by decide +kernel
theorem dJR_fill_102 : decode cJR_fill 102 = .ok (.iload 5, 2) := by decide +kernel
theorem dJR_fill_104 : decode cJR_fill 104 = .ok (.invokestatic 37, 3) := by decide +kernel
theorem dJR_fill_107 : decode cJR_fill 107 = .ok (.aload_n 3, 1) := by decide +kernel
theorem dJR_fill_108 : decode cJR_fill 108 = .ok (.iload 8, 2) := by decide +kernel
theorem dJR_fill_110 : decode cJR_fill 110 = .ok (.aload 4, 2) := by decide +kernel
theorem dJR_fill_112 : decode cJR_fill 112 = .ok (.iload 9, 2) := by decide +kernel
theorem dJR_fill_114 : decode cJR_fill 114 = .ok (.iload 6, 2) := by decide +kernel
theorem dJR_fill_116 : decode cJR_fill 116 = .ok (.invokestatic 37, 3) := by decide +kernel
theorem dJR_fill_119 : decode cJR_fill 119 = .ok (.aload_n 3, 1) := by decide +kernel
theorem dJR_fill_120 : decode cJR_fill 120 = .ok (.iload 8, 2) := by decide +kernel
theorem dJR_fill_122 : decode cJR_fill 122 = .ok (.aload 4, 2) := by decide +kernel
theorem dJR_fill_124 : decode cJR_fill 124 = .ok (.iload 9, 2) := by decide +kernel
theorem dJR_fill_126 : decode cJR_fill 126 = .ok (.iload 7, 2) := by decide +kernel
theorem dJR_fill_128 : decode cJR_fill 128 = .ok (.invokestatic 37, 3) := by decide +kernel
theorem dJR_fill_131 : decode cJR_fill 131 = .ok (.aload_n 3, 1) := by decide +kernel
theorem dJR_fill_132 : decode cJR_fill 132 = .ok (.iload 8, 2) := by decide +kernel
theorem dJR_fill_134 : decode cJR_fill 134 = .ok (.invokevirtual 41, 3) := by decide +kernel
theorem dJR_fill_137 : decode cJR_fill 137 = .ok (.aload 4, 2) := by decide +kernel
theorem dJR_fill_139 : decode cJR_fill 139 = .ok (.iload 9, 2) := by decide +kernel
theorem dJR_fill_141 : decode cJR_fill 141 = .ok (.invokevirtual 41, 3) := by decide +kernel
theorem dJR_fill_144 : decode cJR_fill 144 = .ok (.lmul, 1) := by decide +kernel
theorem dJR_fill_145 : decode cJR_fill 145 = .ok (.invokevirtual 45, 3) := by decide +kernel
theorem dJR_fill_148 : decode cJR_fill 148 = .ok (.iinc 9 1, 3) := by decide +kernel
theorem dJR_fill_151 : decode cJR_fill 151 = .ok (.goto (-91), 3) := by decide +kernel
theorem dJR_fill_154 : decode cJR_fill 154 = .ok (.iinc 8 1, 3) := by decide +kernel
theorem dJR_fill_157 : decode cJR_fill 157 = .ok (.goto (-109), 3) := by decide +kernel
theorem dJR_fill_160 : decode cJR_fill 160 = .ok (.return_, 1) := by decide +kernel
theorem dJR_picked_0 : decode cJR_picked 0 = .ok (.iload 4, 2) := by decide +kernel
theorem dJR_picked_2 : decode cJR_picked 2 = .ok (.iconst 3, 1) := by decide +kernel
theorem dJR_picked_3 : decode cJR_picked 3 = .ok (.if_icmp .ge 13, 3) := by decide +kernel
theorem dJR_picked_6 : decode cJR_picked 6 = .ok (.aload_n 0, 1) := by decide +kernel
theorem dJR_picked_7 : decode cJR_picked 7 = .ok (.iload_n 1, 1) := by decide +kernel
theorem dJR_picked_8 : decode cJR_picked 8 = .ok (.iload 4, 2) := by decide +kernel
theorem dJR_picked_10 : decode cJR_picked 10 = .ok (.invokevirtual 33, 3) := by decide +kernel
theorem dJR_picked_13 : decode cJR_picked 13 = .ok (.goto 12, 3) := by decide +kernel
theorem dJR_picked_16 : decode cJR_picked 16 = .ok (.aload_n 2, 1) := by decide +kernel
theorem dJR_picked_17 : decode cJR_picked 17 = .ok (.iload_n 3, 1) := by decide +kernel
theorem dJR_picked_18 : decode cJR_picked 18 = .ok (.iload 4, 2) := by decide +kernel
theorem dJR_picked_20 : decode cJR_picked 20 = .ok (.iconst 3, 1) := by decide +kernel
theorem dJR_picked_21 : decode cJR_picked 21 = .ok (.isub, 1) := by decide +kernel
theorem dJR_picked_22 : decode cJR_picked 22 = .ok (.invokevirtual 33, 3) := by decide +kernel
theorem dJR_picked_25 : decode cJR_picked 25 = .ok (.ireturn, 1) := by decide +kernel
theorem dJR_init_0 : decode cJR_init 0 = .ok (.aload_n 0, 1) := by decide +kernel
theorem dJR_init_1 : decode cJR_init 1 = .ok (.invokespecial 3, 3) := by decide +kernel
theorem dJR_init_4 : decode cJR_init 4 = .ok (.aload_n 0, 1) := by decide +kernel
theorem dJR_init_5 : decode cJR_init 5 = .ok (.iload_n 1, 1) := by decide +kernel
theorem dJR_init_6 : decode cJR_init 6 = .ok (.putfield 9, 3) := by decide +kernel
theorem dJR_init_9 : decode cJR_init 9 = .ok (.aload_n 0, 1) := by decide +kernel
theorem dJR_init_10 : decode cJR_init 10 = .ok (.iload_n 2, 1) := by decide +kernel
theorem dJR_init_11 : decode cJR_init 11 = .ok (.putfield 15, 3) := by decide +kernel
theorem dJR_init_14 : decode cJR_init 14 = .ok (.aload_n 0, 1) := by decide +kernel
theorem dJR_init_15 : decode cJR_init 15 = .ok (.iload_n 3, 1) := by decide +kernel
theorem dJR_init_16 : decode cJR_init 16 = .ok (.putfield 18, 3) := by decide +kernel
theorem dJR_init_19 : decode cJR_init 19 = .ok (.aload_n 0, 1) := by decide +kernel
theorem dJR_init_20 : decode cJR_init 20 = .ok (.iload 4, 2) := by decide +kernel
theorem dJR_init_22 : decode cJR_init 22 = .ok (.putfield 21, 3) := by decide +kernel
theorem dJR_init_25 : decode cJR_init 25 = .ok (.aload_n 0, 1) := by decide +kernel
theorem dJR_init_26 : decode cJR_init 26 = .ok (.iload 5, 2) := by decide +kernel
theorem dJR_init_28 : decode cJR_init 28 = .ok (.putfield 24, 3) := by decide +kernel
theorem dJR_init_31 : decode cJR_init 31 = .ok (.return_, 1) := by decide +kernel
end
section
theorem dDV_init_0 : decode cDV_init 0 = .ok (.aload_n 0, 1) := by decide +kernel
theorem dDV_init_1 : decode cDV_init 1 = .ok (.invokespecial 3, 3) := by decide +kernel
theorem dDV_init_4 : decode cDV_init 4 = .ok (.aload_n 0, 1) := by decide +kernel
theorem dDV_init_5 : decode cDV_init 5 = .ok (.invokestatic 9, 3) := by decide +kernel
theorem dDV_init_8 : decode cDV_init 8 = .ok (.putfield 13, 3) := by decide +kernel
theorem dDV_init_11 : decode cDV_init 11 = .ok (.aload_n 0, 1) := by decide +kernel
theorem dDV_init_12 : decode cDV_init 12 = .ok (.invokestatic 9, 3) := by decide +kernel
theorem dDV_init_15 : decode cDV_init 15 = .ok (.putfield 17, 3) := by decide +kernel
theorem dDV_init_18 : decode cDV_init 18 = .ok (.aload_n 0, 1) := by decide +kernel
theorem dDV_init_19 : decode cDV_init 19 = .ok (.new 20, 3) := by decide +kernel
theorem dDV_init_22 : decode cDV_init 22 = .ok (.dup, 1) := by decide +kernel
theorem dDV_init_23 : decode cDV_init 23 = .ok (.sipush 576, 3) := by decide +kernel
theorem dDV_init_26 : decode cDV_init 26 = .ok (.invokespecial 22, 3) := by decide +kernel
theorem dDV_init_29 : decode cDV_init 29 = .ok (.putfield 25, 3) := by decide +kernel
theorem dDV_init_32 : decode cDV_init 32 = .ok (.aload_n 0, 1) := by decide +kernel
theorem dDV_init_33 : decode cDV_init 33 = .ok (.new 29, 3) := by decide +kernel
theorem dDV_init_36 : decode cDV_init 36 = .ok (.dup, 1) := by decide +kernel
theorem dDV_init_37 : decode cDV_init 37 = .ok (.invokespecial 31, 3) := by decide +kernel
theorem dDV_init_40 : decode cDV_init 40 = .ok (.putfield 32, 3) := by decide +kernel
theorem dDV_init_43 : decode cDV_init 43 = .ok (.aload_n 0, 1) := by decide +kernel
theorem dDV_init_44 : decode cDV_init 44 = .ok (.bipush 10, 2) := by decide +kernel
theorem dDV_init_46 : decode cDV_init 46 = .ok (.anewarray 36, 3) := by decide +kernel
theorem dDV_init_49 : decode cDV_init 49 = .ok (.putfield 38, 3) := by decide +kernel
theorem dDV_init_52 : decode cDV_init 52 = .ok (.aload_n 0, 1) := by decide +kernel
theorem dDV_init_53 : decode cDV_init 53 = .ok (.bipush 10, 2) := by decide +kernel
theorem dDV_init_55 : decode cDV_init 55 = .ok (.newarray .int, 2) := by decide +kernel
theorem dDV_init_57 : decode cDV_init 57 = .ok (.putfield 42, 3) := by decide +kernel
theorem dDV_init_60 : decode cDV_init 60 = .ok (.aload_n 0, 1) := by decide +kernel
theorem dDV_init_61 : decode cDV_init 61 = .ok (.iconst 0, 1) := by decide +kernel
theorem dDV_init_62 : decode cDV_init 62 = .ok (.putfield 46, 3) := by decide +kernel
theorem dDV_init_65 : decode cDV_init 65 = .ok (.return_, 1) := by decide +kernel
theorem dDV_emptySlots_0 : decode cDV_emptySlots 0 = .ok (.bipush 13, 2) := by decide +kernel
theorem dDV_emptySlots_2 : decode cDV_emptySlots 2 = .ok (.anewarray 20, 3) := by decide +kernel
theorem dDV_emptySlots_5 : decode cDV_emptySlots 5 = .ok (.astore_n 0, 1) := by decide +kernel
theorem dDV_emptySlots_6 : decode cDV_emptySlots 6 = .ok (.iconst 0, 1) := by decide +kernel
theorem dDV_emptySlots_7 : decode cDV_emptySlots 7 = .ok (.istore_n 1, 1) := by decide +kernel
theorem dDV_emptySlots_8 : decode cDV_emptySlots 8 = .ok (.iload_n 1, 1) := by decide +kernel
theorem dDV_emptySlots_9 : decode cDV_emptySlots 9 = .ok (.aload_n 0, 1) := by decide +kernel
theorem dDV_emptySlots_10 : decode cDV_emptySlots 10 = .ok (.arraylength, 1) := by decide +kernel
theorem dDV_emptySlots_11 : decode cDV_emptySlots 11 = .ok (.if_icmp .ge 31, 3) := by decide +kernel
theorem dDV_emptySlots_14 : decode cDV_emptySlots 14 = .ok (.aload_n 0, 1) := by decide +kernel
theorem dDV_emptySlots_15 : decode cDV_emptySlots 15 = .ok (.iload_n 1, 1) := by decide +kernel
theorem dDV_emptySlots_16 : decode cDV_emptySlots 16 = .ok (.new 20, 3) := by decide +kernel
theorem dDV_emptySlots_19 : decode cDV_emptySlots 19 = .ok (.dup, 1) := by decide +kernel
theorem dDV_emptySlots_20 : decode cDV_emptySlots 20 = .ok (.iload_n 1, 1) := by decide +kernel
theorem dDV_emptySlots_21 : decode cDV_emptySlots 21 = .ok (.iconst 3, 1) := by decide +kernel
theorem dDV_emptySlots_22 : decode cDV_emptySlots 22 = .ok (.if_icmp .ge 8, 3) := by decide +kernel
theorem dDV_emptySlots_25 : decode cDV_emptySlots 25 = .ok (.bipush 12, 2) := by decide +kernel
theorem dDV_emptySlots_27 : decode cDV_emptySlots 27 = .ok (.goto 5, 3) := by decide +kernel
theorem dDV_emptySlots_30 : decode cDV_emptySlots 30 = .ok (.bipush 24, 2) := by decide +kernel
theorem dDV_emptySlots_32 : decode cDV_emptySlots 32 = .ok (.invokespecial 22, 3) := by decide +kernel
theorem dDV_emptySlots_35 : decode cDV_emptySlots 35 = .ok (.aastore, 1) := by decide +kernel
theorem dDV_emptySlots_36 : decode cDV_emptySlots 36 = .ok (.iinc 1 1, 3) := by decide +kernel
theorem dDV_emptySlots_39 : decode cDV_emptySlots 39 = .ok (.goto (-31), 3) := by decide +kernel
theorem dDV_emptySlots_42 : decode cDV_emptySlots 42 = .ok (.aload_n 0, 1) := by decide +kernel
theorem dDV_emptySlots_43 : decode cDV_emptySlots 43 = .ok (.areturn, 1) := by decide +kernel
theorem dDV_table_0 : decode cDV_table 0 = .ok (.iload_n 1, 1) := by decide +kernel
theorem dDV_table_1 : decode cDV_table 1 = .ok (.invokestatic 50, 3) := by decide +kernel
theorem dDV_table_4 : decode cDV_table 4 = .ok (.ifCond .ne 5, 3) := by decide +kernel
theorem dDV_table_7 : decode cDV_table 7 = .ok (.iconst (-1), 1) := by decide +kernel
theorem dDV_table_8 : decode cDV_table 8 = .ok (.ireturn, 1) := by decide +kernel
theorem dDV_table_9 : decode cDV_table 9 = .ok (.aload_n 0, 1) := by decide +kernel
theorem dDV_table_10 : decode cDV_table 10 = .ok (.new 54, 3) := by decide +kernel
theorem dDV_table_13 : decode cDV_table 13 = .ok (.dup, 1) := by decide +kernel
theorem dDV_table_14 : decode cDV_table 14 = .ok (.iload_n 1, 1) := by decide +kernel
theorem dDV_table_15 : decode cDV_table 15 = .ok (.invokespecial 56, 3) := by decide +kernel
theorem dDV_table_18 : decode cDV_table 18 = .ok (.invokevirtual 57, 3) := by decide +kernel
theorem dDV_table_21 : decode cDV_table 21 = .ok (.ireturn, 1) := by decide +kernel
theorem dDV_isTable_0 : decode cDV_isTable 0 = .ok (.iload_n 0, 1) := by decide +kernel
theorem dDV_isTable_1 : decode cDV_isTable 1 = .ok (.iconst 3, 1) := by decide +kernel
theorem dDV_isTable_2 : decode cDV_isTable 2 = .ok (.invokestatic 67, 3) := by decide +kernel
theorem dDV_isTable_5 : decode cDV_isTable 5 = .ok (.ireturn, 1) := by decide +kernel
theorem dDV_isBelow_0 : decode cDV_isBelow 0 = .ok (.iload_n 0, 1) := by decide +kernel
theorem dDV_isBelow_1 : decode cDV_isBelow 1 = .ok (.ifCond .lt 12, 3) := by decide +kernel
theorem dDV_isBelow_4 : decode cDV_isBelow 4 = .ok (.iload_n 0, 1) := by decide +kernel
theorem dDV_isBelow_5 : decode cDV_isBelow 5 = .ok (.iload_n 1, 1) := by decide +kernel
theorem dDV_isBelow_6 : decode cDV_isBelow 6 = .ok (.if_icmp .ge 7, 3) := by decide +kernel
theorem dDV_isBelow_9 : decode cDV_isBelow 9 = .ok (.iconst 1, 1) := by decide +kernel
theorem dDV_isBelow_10 : decode cDV_isBelow 10 = .ok (.goto 4, 3) := by decide +kernel
theorem dDV_isBelow_13 : decode cDV_isBelow 13 = .ok (.iconst 0, 1) := by decide +kernel
theorem dDV_isBelow_14 : decode cDV_isBelow 14 = .ok (.ireturn, 1) := by decide +kernel
theorem dDV_make_0 : decode cDV_make 0 = .ok (.aload_n 0, 1) := by decide +kernel
theorem dDV_make_1 : decode cDV_make 1 = .ok (.getfield 46, 3) := by decide +kernel
theorem dDV_make_4 : decode cDV_make 4 = .ok (.bipush 10, 2) := by decide +kernel
theorem dDV_make_6 : decode cDV_make 6 = .ok (.if_icmp .ge 19, 3) := by decide +kernel
theorem dDV_make_9 : decode cDV_make 9 = .ok (.aload_n 0, 1) := by decide +kernel
theorem dDV_make_10 : decode cDV_make 10 = .ok (.aload_n 1, 1) := by decide +kernel
theorem dDV_make_11 : decode cDV_make 11 = .ok (.aload_n 0, 1) := by decide +kernel
theorem dDV_make_12 : decode cDV_make 12 = .ok (.getfield 13, 3) := by decide +kernel
theorem dDV_make_15 : decode cDV_make 15 = .ok (.aload_n 0, 1) := by decide +kernel
theorem dDV_make_16 : decode cDV_make 16 = .ok (.getfield 46, 3) := by decide +kernel
theorem dDV_make_19 : decode cDV_make 19 = .ok (.invokevirtual 113, 3) := by decide +kernel
theorem dDV_make_22 : decode cDV_make 22 = .ok (.ifCond .ne 6, 3) := by decide +kernel
theorem dDV_make_25 : decode cDV_make 25 = .ok (.bipush (-2), 2) := by decide +kernel
theorem dDV_make_27 : decode cDV_make 27 = .ok (.ireturn, 1) := by decide +kernel
theorem dDV_make_28 : decode cDV_make 28 = .ok (.aload_n 0, 1) := by decide +kernel
theorem dDV_make_29 : decode cDV_make 29 = .ok (.getfield 46, 3) := by decide +kernel
theorem dDV_make_32 : decode cDV_make 32 = .ok (.istore_n 2, 1) := by decide +kernel
theorem dDV_make_33 : decode cDV_make 33 = .ok (.aload_n 0, 1) := by decide +kernel
theorem dDV_make_34 : decode cDV_make 34 = .ok (.getfield 38, 3) := by decide +kernel
theorem dDV_make_37 : decode cDV_make 37 = .ok (.iload_n 2, 1) := by decide +kernel
theorem dDV_make_38 : decode cDV_make 38 = .ok (.aload_n 1, 1) := by decide +kernel
theorem dDV_make_39 : decode cDV_make 39 = .ok (.aastore, 1) := by decide +kernel
theorem dDV_make_40 : decode cDV_make 40 = .ok (.aload_n 0, 1) := by decide +kernel
theorem dDV_make_41 : decode cDV_make 41 = .ok (.getfield 42, 3) := by decide +kernel
theorem dDV_make_44 : decode cDV_make 44 = .ok (.iload_n 2, 1) := by decide +kernel
theorem dDV_make_45 : decode cDV_make 45 = .ok (.iconst 0, 1) := by decide +kernel
theorem dDV_make_46 : decode cDV_make 46 = .ok (.iastore, 1) := by decide +kernel
theorem dDV_make_47 : decode cDV_make 47 = .ok (.aload_n 0, 1) := by decide +kernel
theorem dDV_make_48 : decode cDV_make 48 = .ok (.dup, 1) := by decide +kernel
theorem dDV_make_49 : decode cDV_make 49 = .ok (.getfield 46, 3) := by decide +kernel
theorem dDV_make_52 : decode cDV_make 52 = .ok (.iconst 1, 1) := by decide +kernel
theorem dDV_make_53 : decode cDV_make 53 = .ok (.iadd, 1) := by decide +kernel
theorem dDV_make_54 : decode cDV_make 54 = .ok (.putfield 46, 3) := by decide +kernel
theorem dDV_make_57 : decode cDV_make 57 = .ok (.iload_n 2, 1) := by decide +kernel
theorem dDV_make_58 : decode cDV_make 58 = .ok (.ireturn, 1) := by decide +kernel
theorem dDV_fillNode_0 : decode cDV_fillNode 0 = .ok (.aload_n 0, 1) := by decide +kernel
theorem dDV_fillNode_1 : decode cDV_fillNode 1 = .ok (.getfield 25, 3) := by decide +kernel
theorem dDV_fillNode_4 : decode cDV_fillNode 4 = .ok (.invokevirtual 147, 3) := by decide +kernel
theorem dDV_fillNode_7 : decode cDV_fillNode 7 = .ok (.aload_n 1, 1) := by decide +kernel
theorem dDV_fillNode_8 : decode cDV_fillNode 8 = .ok (.aload_n 2, 1) := by decide +kernel
theorem dDV_fillNode_9 : decode cDV_fillNode 9 = .ok (.aload_n 0, 1) := by decide +kernel
theorem dDV_fillNode_10 : decode cDV_fillNode 10 = .ok (.getfield 25, 3) := by decide +kernel
theorem dDV_fillNode_13 : decode cDV_fillNode 13 = .ok (.invokeinterface 148 3, 5) := by decide +kernel
theorem dDV_fillNode_18 : decode cDV_fillNode 18 = .ok (.aload_n 0, 1) := by decide +kernel
theorem dDV_fillNode_19 : decode cDV_fillNode 19 = .ok (.aload_n 2, 1) := by decide +kernel
theorem dDV_fillNode_20 : decode cDV_fillNode 20 = .ok (.iload_n 3, 1) := by decide +kernel
theorem dDV_fillNode_21 : decode cDV_fillNode 21 = .ok (.invokestatic 73, 3) := by decide +kernel
theorem dDV_fillNode_24 : decode cDV_fillNode 24 = .ok (.aaload, 1) := by decide +kernel
theorem dDV_fillNode_25 : decode cDV_fillNode 25 = .ok (.invokevirtual 152, 3) := by decide +kernel
theorem dDV_fillNode_28 : decode cDV_fillNode 28 = .ok (.ireturn, 1) := by decide +kernel
theorem dDV_slotOf_0 : decode cDV_slotOf 0 = .ok (.iconst 3, 1) := by decide +kernel
theorem dDV_slotOf_1 : decode cDV_slotOf 1 = .ok (.iload_n 0, 1) := by decide +kernel
theorem dDV_slotOf_2 : decode cDV_slotOf 2 = .ok (.iadd, 1) := by decide +kernel
theorem dDV_slotOf_3 : decode cDV_slotOf 3 = .ok (.ireturn, 1) := by decide +kernel
theorem dDV_settleWork_0 : decode cDV_settleWork 0 = .ok (.aload_n 0, 1) := by decide +kernel
theorem dDV_settleWork_1 : decode cDV_settleWork 1 = .ok (.getfield 25, 3) := by decide +kernel
theorem dDV_settleWork_4 : decode cDV_settleWork 4 = .ok (.invokevirtual 156, 3) := by decide +kernel
theorem dDV_settleWork_7 : decode cDV_settleWork 7 = .ok (.aload_n 1, 1) := by decide +kernel
theorem dDV_settleWork_8 : decode cDV_settleWork 8 = .ok (.aload_n 0, 1) := by decide +kernel
theorem dDV_settleWork_9 : decode cDV_settleWork 9 = .ok (.getfield 25, 3) := by decide +kernel
theorem dDV_settleWork_12 : decode cDV_settleWork 12 = .ok (.invokevirtual 159, 3) := by decide +kernel
theorem dDV_settleWork_15 : decode cDV_settleWork 15 = .ok (.ifCond .ne 5, 3) := by decide +kernel
theorem dDV_settleWork_18 : decode cDV_settleWork 18 = .ok (.iconst 0, 1) := by decide +kernel
theorem dDV_settleWork_19 : decode cDV_settleWork 19 = .ok (.ireturn, 1) := by decide +kernel
theorem dDV_settleWork_20 : decode cDV_settleWork 20 = .ok (.aload_n 1, 1) := by decide +kernel
theorem dDV_settleWork_21 : decode cDV_settleWork 21 = .ok (.aload_n 0, 1) := by decide +kernel
theorem dDV_settleWork_22 : decode cDV_settleWork 22 = .ok (.getfield 25, 3) := by decide +kernel
theorem dDV_settleWork_25 : decode cDV_settleWork 25 = .ok (.invokevirtual 162, 3) := by decide +kernel
theorem dDV_settleWork_28 : decode cDV_settleWork 28 = .ok (.iconst 1, 1) := by decide +kernel
theorem dDV_settleWork_29 : decode cDV_settleWork 29 = .ok (.ireturn, 1) := by decide +kernel
theorem dDV_filter_0 : decode cDV_filter 0 = .ok (.aload_n 0, 1) := by decide +kernel
theorem dDV_filter_1 : decode cDV_filter 1 = .ok (.iload_n 1, 1) := by decide +kernel
theorem dDV_filter_2 : decode cDV_filter 2 = .ok (.invokevirtual 61, 3) := by decide +kernel
theorem dDV_filter_5 : decode cDV_filter 5 = .ok (.ifCond .eq 18, 3) := by decide +kernel
theorem dDV_filter_8 : decode cDV_filter 8 = .ok (.iload_n 2, 1) := by decide +kernel
theorem dDV_filter_9 : decode cDV_filter 9 = .ok (.invokestatic 64, 3) := by decide +kernel
theorem dDV_filter_12 : decode cDV_filter 12 = .ok (.ifCond .eq 11, 3) := by decide +kernel
theorem dDV_filter_15 : decode cDV_filter 15 = .ok (.iload_n 3, 1) := by decide +kernel
theorem dDV_filter_16 : decode cDV_filter 16 = .ok (.iconst 4, 1) := by decide +kernel
theorem dDV_filter_17 : decode cDV_filter 17 = .ok (.invokestatic 67, 3) := by decide +kernel
theorem dDV_filter_20 : decode cDV_filter 20 = .ok (.ifCond .ne 5, 3) := by decide +kernel
theorem dDV_filter_23 : decode cDV_filter 23 = .ok (.iconst (-1), 1) := by decide +kernel
theorem dDV_filter_24 : decode cDV_filter 24 = .ok (.ireturn, 1) := by decide +kernel
theorem dDV_filter_25 : decode cDV_filter 25 = .ok (.aload_n 0, 1) := by decide +kernel
theorem dDV_filter_26 : decode cDV_filter 26 = .ok (.new 71, 3) := by decide +kernel
theorem dDV_filter_29 : decode cDV_filter 29 = .ok (.dup, 1) := by decide +kernel
theorem dDV_filter_30 : decode cDV_filter 30 = .ok (.iload_n 1, 1) := by decide +kernel
theorem dDV_filter_31 : decode cDV_filter 31 = .ok (.invokestatic 73, 3) := by decide +kernel
theorem dDV_filter_34 : decode cDV_filter 34 = .ok (.iload_n 2, 1) := by decide +kernel
theorem dDV_filter_35 : decode cDV_filter 35 = .ok (.iload_n 3, 1) := by decide +kernel
theorem dDV_filter_36 : decode cDV_filter 36 = .ok (.iload 4, 2) := by decide +kernel
theorem dDV_filter_38 : decode cDV_filter 38 = .ok (.invokespecial 77, 3) := by decide +kernel
theorem dDV_filter_41 : decode cDV_filter 41 = .ok (.invokevirtual 57, 3) := by decide +kernel
theorem dDV_filter_44 : decode cDV_filter 44 = .ok (.ireturn, 1) := by decide +kernel
theorem dDV_isNode_0 : decode cDV_isNode 0 = .ok (.iload_n 1, 1) := by decide +kernel
theorem dDV_isNode_1 : decode cDV_isNode 1 = .ok (.aload_n 0, 1) := by decide +kernel
theorem dDV_isNode_2 : decode cDV_isNode 2 = .ok (.getfield 46, 3) := by decide +kernel
theorem dDV_isNode_5 : decode cDV_isNode 5 = .ok (.invokestatic 67, 3) := by decide +kernel
theorem dDV_isNode_8 : decode cDV_isNode 8 = .ok (.ireturn, 1) := by decide +kernel
theorem dDV_isColumn_0 : decode cDV_isColumn 0 = .ok (.iload_n 0, 1) := by decide +kernel
theorem dDV_isColumn_1 : decode cDV_isColumn 1 = .ok (.iconst 3, 1) := by decide +kernel
theorem dDV_isColumn_2 : decode cDV_isColumn 2 = .ok (.invokestatic 67, 3) := by decide +kernel
theorem dDV_isColumn_5 : decode cDV_isColumn 5 = .ok (.ireturn, 1) := by decide +kernel
theorem dDV_map_0 : decode cDV_map 0 = .ok (.aload_n 0, 1) := by decide +kernel
theorem dDV_map_1 : decode cDV_map 1 = .ok (.iload_n 1, 1) := by decide +kernel
theorem dDV_map_2 : decode cDV_map 2 = .ok (.invokevirtual 61, 3) := by decide +kernel
theorem dDV_map_5 : decode cDV_map 5 = .ok (.ifCond .eq 31, 3) := by decide +kernel
theorem dDV_map_8 : decode cDV_map 8 = .ok (.iload_n 2, 1) := by decide +kernel
theorem dDV_map_9 : decode cDV_map 9 = .ok (.bipush 6, 2) := by decide +kernel
theorem dDV_map_11 : decode cDV_map 11 = .ok (.invokestatic 67, 3) := by decide +kernel
theorem dDV_map_14 : decode cDV_map 14 = .ok (.ifCond .eq 22, 3) := by decide +kernel
theorem dDV_map_17 : decode cDV_map 17 = .ok (.iload_n 3, 1) := by decide +kernel
theorem dDV_map_18 : decode cDV_map 18 = .ok (.bipush 6, 2) := by decide +kernel
theorem dDV_map_20 : decode cDV_map 20 = .ok (.invokestatic 67, 3) := by decide +kernel
theorem dDV_map_23 : decode cDV_map 23 = .ok (.ifCond .eq 13, 3) := by decide +kernel
theorem dDV_map_26 : decode cDV_map 26 = .ok (.iload 4, 2) := by decide +kernel
theorem dDV_map_28 : decode cDV_map 28 = .ok (.bipush 6, 2) := by decide +kernel
theorem dDV_map_30 : decode cDV_map 30 = .ok (.invokestatic 67, 3) := by decide +kernel
theorem dDV_map_33 : decode cDV_map 33 = .ok (.ifCond .ne 5, 3) := by decide +kernel
theorem dDV_map_36 : decode cDV_map 36 = .ok (.iconst (-1), 1) := by decide +kernel
theorem dDV_map_37 : decode cDV_map 37 = .ok (.ireturn, 1) := by decide +kernel
theorem dDV_map_38 : decode cDV_map 38 = .ok (.aload_n 0, 1) := by decide +kernel
theorem dDV_map_39 : decode cDV_map 39 = .ok (.new 80, 3) := by decide +kernel
theorem dDV_map_42 : decode cDV_map 42 = .ok (.dup, 1) := by decide +kernel
theorem dDV_map_43 : decode cDV_map 43 = .ok (.iload_n 1, 1) := by decide +kernel
theorem dDV_map_44 : decode cDV_map 44 = .ok (.invokestatic 73, 3) := by decide +kernel
theorem dDV_map_47 : decode cDV_map 47 = .ok (.iload_n 2, 1) := by decide +kernel
theorem dDV_map_48 : decode cDV_map 48 = .ok (.iload_n 3, 1) := by decide +kernel
theorem dDV_map_49 : decode cDV_map 49 = .ok (.iload 4, 2) := by decide +kernel
theorem dDV_map_51 : decode cDV_map 51 = .ok (.invokespecial 82, 3) := by decide +kernel
theorem dDV_map_54 : decode cDV_map 54 = .ok (.invokevirtual 57, 3) := by decide +kernel
theorem dDV_map_57 : decode cDV_map 57 = .ok (.ireturn, 1) := by decide +kernel
theorem dDV_join_0 : decode cDV_join 0 = .ok (.aload_n 0, 1) := by decide +kernel
theorem dDV_join_1 : decode cDV_join 1 = .ok (.iload_n 1, 1) := by decide +kernel
theorem dDV_join_2 : decode cDV_join 2 = .ok (.invokevirtual 61, 3) := by decide +kernel
theorem dDV_join_5 : decode cDV_join 5 = .ok (.ifCond .eq 37, 3) := by decide +kernel
theorem dDV_join_8 : decode cDV_join 8 = .ok (.aload_n 0, 1) := by decide +kernel
theorem dDV_join_9 : decode cDV_join 9 = .ok (.iload_n 2, 1) := by decide +kernel
theorem dDV_join_10 : decode cDV_join 10 = .ok (.invokevirtual 61, 3) := by decide +kernel
theorem dDV_join_13 : decode cDV_join 13 = .ok (.ifCond .eq 29, 3) := by decide +kernel
theorem dDV_join_16 : decode cDV_join 16 = .ok (.iload_n 3, 1) := by decide +kernel
theorem dDV_join_17 : decode cDV_join 17 = .ok (.invokestatic 64, 3) := by decide +kernel
theorem dDV_join_20 : decode cDV_join 20 = .ok (.ifCond .eq 22, 3) := by decide +kernel
theorem dDV_join_23 : decode cDV_join 23 = .ok (.iload 4, 2) := by decide +kernel
theorem dDV_join_25 : decode cDV_join 25 = .ok (.invokestatic 64, 3) := by decide +kernel
theorem dDV_join_28 : decode cDV_join 28 = .ok (.ifCond .eq 14, 3) := by decide +kernel
theorem dDV_join_31 : decode cDV_join 31 = .ok (.iload 5, 2) := by decide +kernel
theorem dDV_join_33 : decode cDV_join 33 = .ok (.sipush 216, 3) := by decide +kernel
theorem dDV_join_36 : decode cDV_join 36 = .ok (.invokestatic 67, 3) := by decide +kernel
theorem dDV_join_39 : decode cDV_join 39 = .ok (.ifCond .ne 5, 3) := by decide +kernel
theorem dDV_join_42 : decode cDV_join 42 = .ok (.iconst (-1), 1) := by decide +kernel
theorem dDV_join_43 : decode cDV_join 43 = .ok (.ireturn, 1) := by decide +kernel
theorem dDV_join_44 : decode cDV_join 44 = .ok (.aload_n 0, 1) := by decide +kernel
theorem dDV_join_45 : decode cDV_join 45 = .ok (.new 83, 3) := by decide +kernel
theorem dDV_join_48 : decode cDV_join 48 = .ok (.dup, 1) := by decide +kernel
theorem dDV_join_49 : decode cDV_join 49 = .ok (.iload_n 1, 1) := by decide +kernel
theorem dDV_join_50 : decode cDV_join 50 = .ok (.invokestatic 73, 3) := by decide +kernel
theorem dDV_join_53 : decode cDV_join 53 = .ok (.iload_n 2, 1) := by decide +kernel
theorem dDV_join_54 : decode cDV_join 54 = .ok (.invokestatic 73, 3) := by decide +kernel
theorem dDV_join_57 : decode cDV_join 57 = .ok (.iload_n 3, 1) := by decide +kernel
theorem dDV_join_58 : decode cDV_join 58 = .ok (.iload 4, 2) := by decide +kernel
theorem dDV_join_60 : decode cDV_join 60 = .ok (.iload 5, 2) := by decide +kernel
theorem dDV_join_62 : decode cDV_join 62 = .ok (.invokespecial 85, 3) := by decide +kernel
theorem dDV_join_65 : decode cDV_join 65 = .ok (.invokevirtual 57, 3) := by decide +kernel
theorem dDV_join_68 : decode cDV_join 68 = .ok (.ireturn, 1) := by decide +kernel
theorem dDV_combine_0 : decode cDV_combine 0 = .ok (.aload_n 0, 1) := by decide +kernel
theorem dDV_combine_1 : decode cDV_combine 1 = .ok (.iload_n 1, 1) := by decide +kernel
theorem dDV_combine_2 : decode cDV_combine 2 = .ok (.invokevirtual 61, 3) := by decide +kernel
theorem dDV_combine_5 : decode cDV_combine 5 = .ok (.ifCond .eq 19, 3) := by decide +kernel
theorem dDV_combine_8 : decode cDV_combine 8 = .ok (.aload_n 0, 1) := by decide +kernel
theorem dDV_combine_9 : decode cDV_combine 9 = .ok (.iload_n 2, 1) := by decide +kernel
theorem dDV_combine_10 : decode cDV_combine 10 = .ok (.invokevirtual 61, 3) := by decide +kernel
theorem dDV_combine_13 : decode cDV_combine 13 = .ok (.ifCond .eq 11, 3) := by decide +kernel
theorem dDV_combine_16 : decode cDV_combine 16 = .ok (.iload_n 3, 1) := by decide +kernel
theorem dDV_combine_17 : decode cDV_combine 17 = .ok (.iconst 2, 1) := by decide +kernel
theorem dDV_combine_18 : decode cDV_combine 18 = .ok (.invokestatic 67, 3) := by decide +kernel
theorem dDV_combine_21 : decode cDV_combine 21 = .ok (.ifCond .ne 5, 3) := by decide +kernel
theorem dDV_combine_24 : decode cDV_combine 24 = .ok (.iconst (-1), 1) := by decide +kernel
theorem dDV_combine_25 : decode cDV_combine 25 = .ok (.ireturn, 1) := by decide +kernel
theorem dDV_combine_26 : decode cDV_combine 26 = .ok (.aload_n 0, 1) := by decide +kernel
theorem dDV_combine_27 : decode cDV_combine 27 = .ok (.new 88, 3) := by decide +kernel
theorem dDV_combine_30 : decode cDV_combine 30 = .ok (.dup, 1) := by decide +kernel
theorem dDV_combine_31 : decode cDV_combine 31 = .ok (.iload_n 1, 1) := by decide +kernel
theorem dDV_combine_32 : decode cDV_combine 32 = .ok (.invokestatic 73, 3) := by decide +kernel
theorem dDV_combine_35 : decode cDV_combine 35 = .ok (.iload_n 2, 1) := by decide +kernel
theorem dDV_combine_36 : decode cDV_combine 36 = .ok (.invokestatic 73, 3) := by decide +kernel
theorem dDV_combine_39 : decode cDV_combine 39 = .ok (.iload_n 3, 1) := by decide +kernel
theorem dDV_combine_40 : decode cDV_combine 40 = .ok (.invokespecial 90, 3) := by decide +kernel
theorem dDV_combine_43 : decode cDV_combine 43 = .ok (.invokevirtual 57, 3) := by decide +kernel
theorem dDV_combine_46 : decode cDV_combine 46 = .ok (.ireturn, 1) := by decide +kernel
theorem dDV_distinct_0 : decode cDV_distinct 0 = .ok (.aload_n 0, 1) := by decide +kernel
theorem dDV_distinct_1 : decode cDV_distinct 1 = .ok (.iload_n 1, 1) := by decide +kernel
theorem dDV_distinct_2 : decode cDV_distinct 2 = .ok (.invokevirtual 61, 3) := by decide +kernel
theorem dDV_distinct_5 : decode cDV_distinct 5 = .ok (.ifCond .ne 5, 3) := by decide +kernel
theorem dDV_distinct_8 : decode cDV_distinct 8 = .ok (.iconst (-1), 1) := by decide +kernel
theorem dDV_distinct_9 : decode cDV_distinct 9 = .ok (.ireturn, 1) := by decide +kernel
theorem dDV_distinct_10 : decode cDV_distinct 10 = .ok (.aload_n 0, 1) := by decide +kernel
theorem dDV_distinct_11 : decode cDV_distinct 11 = .ok (.new 93, 3) := by decide +kernel
theorem dDV_distinct_14 : decode cDV_distinct 14 = .ok (.dup, 1) := by decide +kernel
theorem dDV_distinct_15 : decode cDV_distinct 15 = .ok (.iload_n 1, 1) := by decide +kernel
theorem dDV_distinct_16 : decode cDV_distinct 16 = .ok (.invokestatic 73, 3) := by decide +kernel
theorem dDV_distinct_19 : decode cDV_distinct 19 = .ok (.invokespecial 95, 3) := by decide +kernel
theorem dDV_distinct_22 : decode cDV_distinct 22 = .ok (.invokevirtual 57, 3) := by decide +kernel
theorem dDV_distinct_25 : decode cDV_distinct 25 = .ok (.ireturn, 1) := by decide +kernel
theorem dDV_group_0 : decode cDV_group 0 = .ok (.aload_n 0, 1) := by decide +kernel
theorem dDV_group_1 : decode cDV_group 1 = .ok (.iload_n 1, 1) := by decide +kernel
theorem dDV_group_2 : decode cDV_group 2 = .ok (.invokevirtual 61, 3) := by decide +kernel
theorem dDV_group_5 : decode cDV_group 5 = .ok (.ifCond .eq 26, 3) := by decide +kernel
theorem dDV_group_8 : decode cDV_group 8 = .ok (.iload_n 2, 1) := by decide +kernel
theorem dDV_group_9 : decode cDV_group 9 = .ok (.invokestatic 64, 3) := by decide +kernel
theorem dDV_group_12 : decode cDV_group 12 = .ok (.ifCond .eq 19, 3) := by decide +kernel
theorem dDV_group_15 : decode cDV_group 15 = .ok (.iload_n 3, 1) := by decide +kernel
theorem dDV_group_16 : decode cDV_group 16 = .ok (.invokestatic 64, 3) := by decide +kernel
theorem dDV_group_19 : decode cDV_group 19 = .ok (.ifCond .eq 12, 3) := by decide +kernel
theorem dDV_group_22 : decode cDV_group 22 = .ok (.iload 4, 2) := by decide +kernel
theorem dDV_group_24 : decode cDV_group 24 = .ok (.iconst 4, 1) := by decide +kernel
theorem dDV_group_25 : decode cDV_group 25 = .ok (.invokestatic 67, 3) := by decide +kernel
theorem dDV_group_28 : decode cDV_group 28 = .ok (.ifCond .ne 5, 3) := by decide +kernel
theorem dDV_group_31 : decode cDV_group 31 = .ok (.iconst (-1), 1) := by decide +kernel
theorem dDV_group_32 : decode cDV_group 32 = .ok (.ireturn, 1) := by decide +kernel
theorem dDV_group_33 : decode cDV_group 33 = .ok (.aload_n 0, 1) := by decide +kernel
theorem dDV_group_34 : decode cDV_group 34 = .ok (.new 96, 3) := by decide +kernel
theorem dDV_group_37 : decode cDV_group 37 = .ok (.dup, 1) := by decide +kernel
theorem dDV_group_38 : decode cDV_group 38 = .ok (.iload_n 1, 1) := by decide +kernel
theorem dDV_group_39 : decode cDV_group 39 = .ok (.invokestatic 73, 3) := by decide +kernel
theorem dDV_group_42 : decode cDV_group 42 = .ok (.iload_n 2, 1) := by decide +kernel
theorem dDV_group_43 : decode cDV_group 43 = .ok (.iload_n 3, 1) := by decide +kernel
theorem dDV_group_44 : decode cDV_group 44 = .ok (.iload 4, 2) := by decide +kernel
theorem dDV_group_46 : decode cDV_group 46 = .ok (.invokespecial 98, 3) := by decide +kernel
theorem dDV_group_49 : decode cDV_group 49 = .ok (.invokevirtual 57, 3) := by decide +kernel
theorem dDV_group_52 : decode cDV_group 52 = .ok (.ireturn, 1) := by decide +kernel
theorem dDV_change_0 : decode cDV_change 0 = .ok (.iload_n 1, 1) := by decide +kernel
theorem dDV_change_1 : decode cDV_change 1 = .ok (.invokestatic 50, 3) := by decide +kernel
theorem dDV_change_4 : decode cDV_change 4 = .ok (.ifCond .eq 21, 3) := by decide +kernel
theorem dDV_change_7 : decode cDV_change 7 = .ok (.iload 5, 2) := by decide +kernel
theorem dDV_change_9 : decode cDV_change 9 = .ok (.bipush (-3), 2) := by decide +kernel
theorem dDV_change_11 : decode cDV_change 11 = .ok (.if_icmp .lt 14, 3) := by decide +kernel
theorem dDV_change_14 : decode cDV_change 14 = .ok (.iload 5, 2) := by decide +kernel
theorem dDV_change_16 : decode cDV_change 16 = .ok (.iconst 3, 1) := by decide +kernel
theorem dDV_change_17 : decode cDV_change 17 = .ok (.if_icmp .gt 8, 3) := by decide +kernel
theorem dDV_change_20 : decode cDV_change 20 = .ok (.iload 5, 2) := by decide +kernel
theorem dDV_change_22 : decode cDV_change 22 = .ok (.ifCond .ne 5, 3) := by decide +kernel
theorem dDV_change_25 : decode cDV_change 25 = .ok (.iconst (-1), 1) := by decide +kernel
theorem dDV_change_26 : decode cDV_change 26 = .ok (.ireturn, 1) := by decide +kernel
theorem dDV_change_27 : decode cDV_change 27 = .ok (.aload_n 0, 1) := by decide +kernel
theorem dDV_change_28 : decode cDV_change 28 = .ok (.getfield 32, 3) := by decide +kernel
theorem dDV_change_31 : decode cDV_change 31 = .ok (.invokevirtual 99, 3) := by decide +kernel
theorem dDV_change_34 : decode cDV_change 34 = .ok (.bipush 12, 2) := by decide +kernel
theorem dDV_change_36 : decode cDV_change 36 = .ok (.if_icmp .lt 6, 3) := by decide +kernel
theorem dDV_change_39 : decode cDV_change 39 = .ok (.bipush (-2), 2) := by decide +kernel
theorem dDV_change_41 : decode cDV_change 41 = .ok (.ireturn, 1) := by decide +kernel
theorem dDV_change_42 : decode cDV_change 42 = .ok (.aload_n 0, 1) := by decide +kernel
theorem dDV_change_43 : decode cDV_change 43 = .ok (.getfield 32, 3) := by decide +kernel
theorem dDV_change_46 : decode cDV_change 46 = .ok (.iload_n 1, 1) := by decide +kernel
theorem dDV_change_47 : decode cDV_change 47 = .ok (.iload_n 2, 1) := by decide +kernel
theorem dDV_change_48 : decode cDV_change 48 = .ok (.iload_n 3, 1) := by decide +kernel
theorem dDV_change_49 : decode cDV_change 49 = .ok (.iload 4, 2) := by decide +kernel
theorem dDV_change_51 : decode cDV_change 51 = .ok (.iload 5, 2) := by decide +kernel
theorem dDV_change_53 : decode cDV_change 53 = .ok (.invokevirtual 103, 3) := by decide +kernel
theorem dDV_change_56 : decode cDV_change 56 = .ok (.aload_n 0, 1) := by decide +kernel
theorem dDV_change_57 : decode cDV_change 57 = .ok (.getfield 32, 3) := by decide +kernel
theorem dDV_change_60 : decode cDV_change 60 = .ok (.invokevirtual 99, 3) := by decide +kernel
theorem dDV_change_63 : decode cDV_change 63 = .ok (.ireturn, 1) := by decide +kernel
theorem dDV_step_0 : decode cDV_step 0 = .ok (.aload_n 0, 1) := by decide +kernel
theorem dDV_step_1 : decode cDV_step 1 = .ok (.invokevirtual 106, 3) := by decide +kernel
theorem dDV_step_4 : decode cDV_step 4 = .ok (.ifCond .eq 5, 3) := by decide +kernel
theorem dDV_step_7 : decode cDV_step 7 = .ok (.iconst (-1), 1) := by decide +kernel
theorem dDV_step_8 : decode cDV_step 8 = .ok (.ireturn, 1) := by decide +kernel
theorem dDV_step_9 : decode cDV_step 9 = .ok (.aload_n 0, 1) := by decide +kernel
theorem dDV_step_10 : decode cDV_step 10 = .ok (.invokevirtual 110, 3) := by decide +kernel
theorem dDV_step_13 : decode cDV_step 13 = .ok (.ifCond .ne 6, 3) := by decide +kernel
theorem dDV_step_16 : decode cDV_step 16 = .ok (.bipush (-2), 2) := by decide +kernel
theorem dDV_step_18 : decode cDV_step 18 = .ok (.ireturn, 1) := by decide +kernel
theorem dDV_step_19 : decode cDV_step 19 = .ok (.iconst 0, 1) := by decide +kernel
theorem dDV_step_20 : decode cDV_step 20 = .ok (.istore_n 1, 1) := by decide +kernel
theorem dDV_step_21 : decode cDV_step 21 = .ok (.iload_n 1, 1) := by decide +kernel
theorem dDV_step_22 : decode cDV_step 22 = .ok (.aload_n 0, 1) := by decide +kernel
theorem dDV_step_23 : decode cDV_step 23 = .ok (.getfield 46, 3) := by decide +kernel
theorem dDV_step_26 : decode cDV_step 26 = .ok (.if_icmp .ge 30, 3) := by decide +kernel
theorem dDV_step_29 : decode cDV_step 29 = .ok (.aload_n 0, 1) := by decide +kernel
theorem dDV_step_30 : decode cDV_step 30 = .ok (.aload_n 0, 1) := by decide +kernel
theorem dDV_step_31 : decode cDV_step 31 = .ok (.getfield 38, 3) := by decide +kernel
theorem dDV_step_34 : decode cDV_step 34 = .ok (.iload_n 1, 1) := by decide +kernel
theorem dDV_step_35 : decode cDV_step 35 = .ok (.aaload, 1) := by decide +kernel
theorem dDV_step_36 : decode cDV_step 36 = .ok (.aload_n 0, 1) := by decide +kernel
theorem dDV_step_37 : decode cDV_step 37 = .ok (.getfield 17, 3) := by decide +kernel
theorem dDV_step_40 : decode cDV_step 40 = .ok (.iload_n 1, 1) := by decide +kernel
theorem dDV_step_41 : decode cDV_step 41 = .ok (.invokevirtual 113, 3) := by decide +kernel
theorem dDV_step_44 : decode cDV_step 44 = .ok (.ifCond .ne 6, 3) := by decide +kernel
theorem dDV_step_47 : decode cDV_step 47 = .ok (.bipush (-2), 2) := by decide +kernel
theorem dDV_step_49 : decode cDV_step 49 = .ok (.ireturn, 1) := by decide +kernel
theorem dDV_step_50 : decode cDV_step 50 = .ok (.iinc 1 1, 3) := by decide +kernel
theorem dDV_step_53 : decode cDV_step 53 = .ok (.goto (-32), 3) := by decide +kernel
theorem dDV_step_56 : decode cDV_step 56 = .ok (.aload_n 0, 1) := by decide +kernel
theorem dDV_step_57 : decode cDV_step 57 = .ok (.getfield 13, 3) := by decide +kernel
theorem dDV_step_60 : decode cDV_step 60 = .ok (.astore_n 1, 1) := by decide +kernel
theorem dDV_step_61 : decode cDV_step 61 = .ok (.aload_n 0, 1) := by decide +kernel
theorem dDV_step_62 : decode cDV_step 62 = .ok (.aload_n 0, 1) := by decide +kernel
theorem dDV_step_63 : decode cDV_step 63 = .ok (.getfield 17, 3) := by decide +kernel
theorem dDV_step_66 : decode cDV_step 66 = .ok (.putfield 13, 3) := by decide +kernel
theorem dDV_step_69 : decode cDV_step 69 = .ok (.aload_n 0, 1) := by decide +kernel
theorem dDV_step_70 : decode cDV_step 70 = .ok (.aload_n 1, 1) := by decide +kernel
theorem dDV_step_71 : decode cDV_step 71 = .ok (.putfield 17, 3) := by decide +kernel
theorem dDV_step_74 : decode cDV_step 74 = .ok (.aload_n 0, 1) := by decide +kernel
theorem dDV_step_75 : decode cDV_step 75 = .ok (.getfield 32, 3) := by decide +kernel
theorem dDV_step_78 : decode cDV_step 78 = .ok (.invokevirtual 117, 3) := by decide +kernel
theorem dDV_step_81 : decode cDV_step 81 = .ok (.aload_n 0, 1) := by decide +kernel
theorem dDV_step_82 : decode cDV_step 82 = .ok (.aload_n 1, 1) := by decide +kernel
theorem dDV_step_83 : decode cDV_step 83 = .ok (.invokevirtual 120, 3) := by decide +kernel
theorem dDV_step_86 : decode cDV_step 86 = .ok (.ireturn, 1) := by decide +kernel
theorem dDV_wouldFallBelowZero_0 : decode cDV_wouldFallBelowZero 0 = .ok (.iconst 0, 1) := by decide +kernel
theorem dDV_wouldFallBelowZero_1 : decode cDV_wouldFallBelowZero 1 = .ok (.istore_n 1, 1) := by decide +kernel
theorem dDV_wouldFallBelowZero_2 : decode cDV_wouldFallBelowZero 2 = .ok (.iload_n 1, 1) := by decide +kernel
theorem dDV_wouldFallBelowZero_3 : decode cDV_wouldFallBelowZero 3 = .ok (.iconst 3, 1) := by decide +kernel
theorem dDV_wouldFallBelowZero_4 : decode cDV_wouldFallBelowZero 4 = .ok (.if_icmp .ge 26, 3) := by decide +kernel
theorem dDV_wouldFallBelowZero_7 : decode cDV_wouldFallBelowZero 7 = .ok (.aload_n 0, 1) := by decide +kernel
theorem dDV_wouldFallBelowZero_8 : decode cDV_wouldFallBelowZero 8 = .ok (.iload_n 1, 1) := by decide +kernel
theorem dDV_wouldFallBelowZero_9 : decode cDV_wouldFallBelowZero 9 = .ok (.invokevirtual 170, 3) := by decide +kernel
theorem dDV_wouldFallBelowZero_12 : decode cDV_wouldFallBelowZero 12 = .ok (.aload_n 0, 1) := by decide +kernel
theorem dDV_wouldFallBelowZero_13 : decode cDV_wouldFallBelowZero 13 = .ok (.getfield 25, 3) := by decide +kernel
theorem dDV_wouldFallBelowZero_16 : decode cDV_wouldFallBelowZero 16 = .ok (.invokevirtual 173, 3) := by decide +kernel
theorem dDV_wouldFallBelowZero_19 : decode cDV_wouldFallBelowZero 19 = .ok (.ifCond .eq 5, 3) := by decide +kernel
theorem dDV_wouldFallBelowZero_22 : decode cDV_wouldFallBelowZero 22 = .ok (.iconst 1, 1) := by decide +kernel
theorem dDV_wouldFallBelowZero_23 : decode cDV_wouldFallBelowZero 23 = .ok (.ireturn, 1) := by decide +kernel
theorem dDV_wouldFallBelowZero_24 : decode cDV_wouldFallBelowZero 24 = .ok (.iinc 1 1, 3) := by decide +kernel
theorem dDV_wouldFallBelowZero_27 : decode cDV_wouldFallBelowZero 27 = .ok (.goto (-25), 3) := by decide +kernel
theorem dDV_wouldFallBelowZero_30 : decode cDV_wouldFallBelowZero 30 = .ok (.iconst 0, 1) := by decide +kernel
theorem dDV_wouldFallBelowZero_31 : decode cDV_wouldFallBelowZero 31 = .ok (.ireturn, 1) := by decide +kernel
theorem dDV_gatherTable_0 : decode cDV_gatherTable 0 = .ok (.aload_n 0, 1) := by decide +kernel
theorem dDV_gatherTable_1 : decode cDV_gatherTable 1 = .ok (.getfield 25, 3) := by decide +kernel
theorem dDV_gatherTable_4 : decode cDV_gatherTable 4 = .ok (.aload_n 0, 1) := by decide +kernel
theorem dDV_gatherTable_5 : decode cDV_gatherTable 5 = .ok (.getfield 13, 3) := by decide +kernel
theorem dDV_gatherTable_8 : decode cDV_gatherTable 8 = .ok (.iload_n 1, 1) := by decide +kernel
theorem dDV_gatherTable_9 : decode cDV_gatherTable 9 = .ok (.aaload, 1) := by decide +kernel
theorem dDV_gatherTable_10 : decode cDV_gatherTable 10 = .ok (.invokevirtual 162, 3) := by decide +kernel
theorem dDV_gatherTable_13 : decode cDV_gatherTable 13 = .ok (.aload_n 0, 1) := by decide +kernel
theorem dDV_gatherTable_14 : decode cDV_gatherTable 14 = .ok (.getfield 32, 3) := by decide +kernel
theorem dDV_gatherTable_17 : decode cDV_gatherTable 17 = .ok (.aload_n 0, 1) := by decide +kernel
theorem dDV_gatherTable_18 : decode cDV_gatherTable 18 = .ok (.getfield 25, 3) := by decide +kernel
theorem dDV_gatherTable_21 : decode cDV_gatherTable 21 = .ok (.iload_n 1, 1) := by decide +kernel
theorem dDV_gatherTable_22 : decode cDV_gatherTable 22 = .ok (.invokevirtual 166, 3) := by decide +kernel
theorem dDV_gatherTable_25 : decode cDV_gatherTable 25 = .ok (.return_, 1) := by decide +kernel
theorem dDV_fillNextTables_0 : decode cDV_fillNextTables 0 = .ok (.iconst 0, 1) := by decide +kernel
theorem dDV_fillNextTables_1 : decode cDV_fillNextTables 1 = .ok (.istore_n 1, 1) := by decide +kernel
theorem dDV_fillNextTables_2 : decode cDV_fillNextTables 2 = .ok (.iload_n 1, 1) := by decide +kernel
theorem dDV_fillNextTables_3 : decode cDV_fillNextTables 3 = .ok (.iconst 3, 1) := by decide +kernel
theorem dDV_fillNextTables_4 : decode cDV_fillNextTables 4 = .ok (.if_icmp .ge 29, 3) := by decide +kernel
theorem dDV_fillNextTables_7 : decode cDV_fillNextTables 7 = .ok (.aload_n 0, 1) := by decide +kernel
theorem dDV_fillNextTables_8 : decode cDV_fillNextTables 8 = .ok (.iload_n 1, 1) := by decide +kernel
theorem dDV_fillNextTables_9 : decode cDV_fillNextTables 9 = .ok (.invokevirtual 170, 3) := by decide +kernel
theorem dDV_fillNextTables_12 : decode cDV_fillNextTables 12 = .ok (.aload_n 0, 1) := by decide +kernel
theorem dDV_fillNextTables_13 : decode cDV_fillNextTables 13 = .ok (.aload_n 0, 1) := by decide +kernel
theorem dDV_fillNextTables_14 : decode cDV_fillNextTables 14 = .ok (.getfield 17, 3) := by decide +kernel
theorem dDV_fillNextTables_17 : decode cDV_fillNextTables 17 = .ok (.iload_n 1, 1) := by decide +kernel
theorem dDV_fillNextTables_18 : decode cDV_fillNextTables 18 = .ok (.aaload, 1) := by decide +kernel
theorem dDV_fillNextTables_19 : decode cDV_fillNextTables 19 = .ok (.invokevirtual 152, 3) := by decide +kernel
theorem dDV_fillNextTables_22 : decode cDV_fillNextTables 22 = .ok (.ifCond .ne 5, 3) := by decide +kernel
theorem dDV_fillNextTables_25 : decode cDV_fillNextTables 25 = .ok (.iconst 0, 1) := by decide +kernel
theorem dDV_fillNextTables_26 : decode cDV_fillNextTables 26 = .ok (.ireturn, 1) := by decide +kernel
theorem dDV_fillNextTables_27 : decode cDV_fillNextTables 27 = .ok (.iinc 1 1, 3) := by decide +kernel
theorem dDV_fillNextTables_30 : decode cDV_fillNextTables 30 = .ok (.goto (-28), 3) := by decide +kernel
theorem dDV_fillNextTables_33 : decode cDV_fillNextTables 33 = .ok (.iconst 1, 1) := by decide +kernel
theorem dDV_fillNextTables_34 : decode cDV_fillNextTables 34 = .ok (.ireturn, 1) := by decide +kernel
theorem dDV_noteChangesSince_0 : decode cDV_noteChangesSince 0 = .ok (.iconst 0, 1) := by decide +kernel
theorem dDV_noteChangesSince_1 : decode cDV_noteChangesSince 1 = .ok (.istore_n 2, 1) := by decide +kernel
theorem dDV_noteChangesSince_2 : decode cDV_noteChangesSince 2 = .ok (.iconst 0, 1) := by decide +kernel
theorem dDV_noteChangesSince_3 : decode cDV_noteChangesSince 3 = .ok (.istore_n 3, 1) := by decide +kernel
theorem dDV_noteChangesSince_4 : decode cDV_noteChangesSince 4 = .ok (.iload_n 3, 1) := by decide +kernel
theorem dDV_noteChangesSince_5 : decode cDV_noteChangesSince 5 = .ok (.aload_n 0, 1) := by decide +kernel
theorem dDV_noteChangesSince_6 : decode cDV_noteChangesSince 6 = .ok (.getfield 46, 3) := by decide +kernel
theorem dDV_noteChangesSince_9 : decode cDV_noteChangesSince 9 = .ok (.if_icmp .ge 44, 3) := by decide +kernel
theorem dDV_noteChangesSince_12 : decode cDV_noteChangesSince 12 = .ok (.iload_n 3, 1) := by decide +kernel
theorem dDV_noteChangesSince_13 : decode cDV_noteChangesSince 13 = .ok (.invokestatic 73, 3) := by decide +kernel
theorem dDV_noteChangesSince_16 : decode cDV_noteChangesSince 16 = .ok (.istore 4, 2) := by decide +kernel
theorem dDV_noteChangesSince_18 : decode cDV_noteChangesSince 18 = .ok (.aload_n 0, 1) := by decide +kernel
theorem dDV_noteChangesSince_19 : decode cDV_noteChangesSince 19 = .ok (.getfield 42, 3) := by decide +kernel
theorem dDV_noteChangesSince_22 : decode cDV_noteChangesSince 22 = .ok (.iload_n 3, 1) := by decide +kernel
theorem dDV_noteChangesSince_23 : decode cDV_noteChangesSince 23 = .ok (.aload_n 0, 1) := by decide +kernel
theorem dDV_noteChangesSince_24 : decode cDV_noteChangesSince 24 = .ok (.getfield 13, 3) := by decide +kernel
theorem dDV_noteChangesSince_27 : decode cDV_noteChangesSince 27 = .ok (.iload 4, 2) := by decide +kernel
theorem dDV_noteChangesSince_29 : decode cDV_noteChangesSince 29 = .ok (.aaload, 1) := by decide +kernel
theorem dDV_noteChangesSince_30 : decode cDV_noteChangesSince 30 = .ok (.aload_n 1, 1) := by decide +kernel
theorem dDV_noteChangesSince_31 : decode cDV_noteChangesSince 31 = .ok (.iload 4, 2) := by decide +kernel
theorem dDV_noteChangesSince_33 : decode cDV_noteChangesSince 33 = .ok (.aaload, 1) := by decide +kernel
theorem dDV_noteChangesSince_34 : decode cDV_noteChangesSince 34 = .ok (.invokevirtual 176, 3) := by decide +kernel
theorem dDV_noteChangesSince_37 : decode cDV_noteChangesSince 37 = .ok (.iastore, 1) := by decide +kernel
theorem dDV_noteChangesSince_38 : decode cDV_noteChangesSince 38 = .ok (.iload_n 2, 1) := by decide +kernel
theorem dDV_noteChangesSince_39 : decode cDV_noteChangesSince 39 = .ok (.aload_n 0, 1) := by decide +kernel
theorem dDV_noteChangesSince_40 : decode cDV_noteChangesSince 40 = .ok (.getfield 42, 3) := by decide +kernel
theorem dDV_noteChangesSince_43 : decode cDV_noteChangesSince 43 = .ok (.iload_n 3, 1) := by decide +kernel
theorem dDV_noteChangesSince_44 : decode cDV_noteChangesSince 44 = .ok (.iaload, 1) := by decide +kernel
theorem dDV_noteChangesSince_45 : decode cDV_noteChangesSince 45 = .ok (.iadd, 1) := by decide +kernel
theorem dDV_noteChangesSince_46 : decode cDV_noteChangesSince 46 = .ok (.istore_n 2, 1) := by decide +kernel
theorem dDV_noteChangesSince_47 : decode cDV_noteChangesSince 47 = .ok (.iinc 3 1, 3) := by decide +kernel
theorem dDV_noteChangesSince_50 : decode cDV_noteChangesSince 50 = .ok (.goto (-46), 3) := by decide +kernel
theorem dDV_noteChangesSince_53 : decode cDV_noteChangesSince 53 = .ok (.iload_n 2, 1) := by decide +kernel
theorem dDV_noteChangesSince_54 : decode cDV_noteChangesSince 54 = .ok (.ireturn, 1) := by decide +kernel
theorem dDV_drop_0 : decode cDV_drop 0 = .ok (.aload_n 0, 1) := by decide +kernel
theorem dDV_drop_1 : decode cDV_drop 1 = .ok (.getfield 32, 3) := by decide +kernel
theorem dDV_drop_4 : decode cDV_drop 4 = .ok (.invokevirtual 99, 3) := by decide +kernel
theorem dDV_drop_7 : decode cDV_drop 7 = .ok (.istore_n 1, 1) := by decide +kernel
theorem dDV_drop_8 : decode cDV_drop 8 = .ok (.aload_n 0, 1) := by decide +kernel
theorem dDV_drop_9 : decode cDV_drop 9 = .ok (.getfield 32, 3) := by decide +kernel
theorem dDV_drop_12 : decode cDV_drop 12 = .ok (.invokevirtual 117, 3) := by decide +kernel
theorem dDV_drop_15 : decode cDV_drop 15 = .ok (.iload_n 1, 1) := by decide +kernel
theorem dDV_drop_16 : decode cDV_drop 16 = .ok (.ireturn, 1) := by decide +kernel
theorem dDV_weight_0 : decode cDV_weight 0 = .ok (.aload_n 0, 1) := by decide +kernel
theorem dDV_weight_1 : decode cDV_weight 1 = .ok (.iload_n 1, 1) := by decide +kernel
theorem dDV_weight_2 : decode cDV_weight 2 = .ok (.invokevirtual 61, 3) := by decide +kernel
theorem dDV_weight_5 : decode cDV_weight 5 = .ok (.ifCond .eq 18, 3) := by decide +kernel
theorem dDV_weight_8 : decode cDV_weight 8 = .ok (.aload_n 0, 1) := by decide +kernel
theorem dDV_weight_9 : decode cDV_weight 9 = .ok (.iload_n 1, 1) := by decide +kernel
theorem dDV_weight_10 : decode cDV_weight 10 = .ok (.invokevirtual 124, 3) := by decide +kernel
theorem dDV_weight_13 : decode cDV_weight 13 = .ok (.iload_n 2, 1) := by decide +kernel
theorem dDV_weight_14 : decode cDV_weight 14 = .ok (.iload_n 3, 1) := by decide +kernel
theorem dDV_weight_15 : decode cDV_weight 15 = .ok (.iload 4, 2) := by decide +kernel
theorem dDV_weight_17 : decode cDV_weight 17 = .ok (.invokevirtual 128, 3) := by decide +kernel
theorem dDV_weight_20 : decode cDV_weight 20 = .ok (.goto 6, 3) := by decide +kernel
theorem dDV_weight_23 : decode cDV_weight 23 = .ok (.ldc2_w 132, 3) := by decide +kernel
theorem dDV_weight_26 : decode cDV_weight 26 = .ok (.lreturn, 1) := by decide +kernel
theorem dDV_rowsOf_0 : decode cDV_rowsOf 0 = .ok (.aload_n 0, 1) := by decide +kernel
theorem dDV_rowsOf_1 : decode cDV_rowsOf 1 = .ok (.getfield 13, 3) := by decide +kernel
theorem dDV_rowsOf_4 : decode cDV_rowsOf 4 = .ok (.iload_n 1, 1) := by decide +kernel
theorem dDV_rowsOf_5 : decode cDV_rowsOf 5 = .ok (.invokestatic 73, 3) := by decide +kernel
theorem dDV_rowsOf_8 : decode cDV_rowsOf 8 = .ok (.aaload, 1) := by decide +kernel
theorem dDV_rowsOf_9 : decode cDV_rowsOf 9 = .ok (.areturn, 1) := by decide +kernel
theorem dDV_inTable_0 : decode cDV_inTable 0 = .ok (.iload_n 1, 1) := by decide +kernel
theorem dDV_inTable_1 : decode cDV_inTable 1 = .ok (.invokestatic 50, 3) := by decide +kernel
theorem dDV_inTable_4 : decode cDV_inTable 4 = .ok (.ifCond .eq 19, 3) := by decide +kernel
theorem dDV_inTable_7 : decode cDV_inTable 7 = .ok (.aload_n 0, 1) := by decide +kernel
theorem dDV_inTable_8 : decode cDV_inTable 8 = .ok (.getfield 13, 3) := by decide +kernel
theorem dDV_inTable_11 : decode cDV_inTable 11 = .ok (.iload_n 1, 1) := by decide +kernel
theorem dDV_inTable_12 : decode cDV_inTable 12 = .ok (.aaload, 1) := by decide +kernel
theorem dDV_inTable_13 : decode cDV_inTable 13 = .ok (.iload_n 2, 1) := by decide +kernel
theorem dDV_inTable_14 : decode cDV_inTable 14 = .ok (.iload_n 3, 1) := by decide +kernel
theorem dDV_inTable_15 : decode cDV_inTable 15 = .ok (.iload 4, 2) := by decide +kernel
theorem dDV_inTable_17 : decode cDV_inTable 17 = .ok (.invokevirtual 128, 3) := by decide +kernel
theorem dDV_inTable_20 : decode cDV_inTable 20 = .ok (.goto 6, 3) := by decide +kernel
theorem dDV_inTable_23 : decode cDV_inTable 23 = .ok (.ldc2_w 132, 3) := by decide +kernel
theorem dDV_inTable_26 : decode cDV_inTable 26 = .ok (.lreturn, 1) := by decide +kernel
theorem dDV_rows_0 : decode cDV_rows 0 = .ok (.aload_n 0, 1) := by decide +kernel
theorem dDV_rows_1 : decode cDV_rows 1 = .ok (.iload_n 1, 1) := by decide +kernel
theorem dDV_rows_2 : decode cDV_rows 2 = .ok (.invokevirtual 61, 3) := by decide +kernel
theorem dDV_rows_5 : decode cDV_rows 5 = .ok (.ifCond .eq 14, 3) := by decide +kernel
theorem dDV_rows_8 : decode cDV_rows 8 = .ok (.aload_n 0, 1) := by decide +kernel
theorem dDV_rows_9 : decode cDV_rows 9 = .ok (.iload_n 1, 1) := by decide +kernel
theorem dDV_rows_10 : decode cDV_rows 10 = .ok (.invokevirtual 124, 3) := by decide +kernel
theorem dDV_rows_13 : decode cDV_rows 13 = .ok (.invokevirtual 134, 3) := by decide +kernel
theorem dDV_rows_16 : decode cDV_rows 16 = .ok (.goto 4, 3) := by decide +kernel
theorem dDV_rows_19 : decode cDV_rows 19 = .ok (.iconst (-1), 1) := by decide +kernel
theorem dDV_rows_20 : decode cDV_rows 20 = .ok (.ireturn, 1) := by decide +kernel
theorem dDV_cell_0 : decode cDV_cell 0 = .ok (.aload_n 0, 1) := by decide +kernel
theorem dDV_cell_1 : decode cDV_cell 1 = .ok (.iload_n 1, 1) := by decide +kernel
theorem dDV_cell_2 : decode cDV_cell 2 = .ok (.invokevirtual 61, 3) := by decide +kernel
theorem dDV_cell_5 : decode cDV_cell 5 = .ok (.ifCond .eq 25, 3) := by decide +kernel
theorem dDV_cell_8 : decode cDV_cell 8 = .ok (.iload_n 3, 1) := by decide +kernel
theorem dDV_cell_9 : decode cDV_cell 9 = .ok (.invokestatic 64, 3) := by decide +kernel
theorem dDV_cell_12 : decode cDV_cell 12 = .ok (.ifCond .eq 18, 3) := by decide +kernel
theorem dDV_cell_15 : decode cDV_cell 15 = .ok (.iload_n 2, 1) := by decide +kernel
theorem dDV_cell_16 : decode cDV_cell 16 = .ok (.aload_n 0, 1) := by decide +kernel
theorem dDV_cell_17 : decode cDV_cell 17 = .ok (.iload_n 1, 1) := by decide +kernel
theorem dDV_cell_18 : decode cDV_cell 18 = .ok (.invokevirtual 124, 3) := by decide +kernel
theorem dDV_cell_21 : decode cDV_cell 21 = .ok (.invokevirtual 134, 3) := by decide +kernel
theorem dDV_cell_24 : decode cDV_cell 24 = .ok (.invokestatic 67, 3) := by decide +kernel
theorem dDV_cell_27 : decode cDV_cell 27 = .ok (.ifCond .ne 7, 3) := by decide +kernel
theorem dDV_cell_30 : decode cDV_cell 30 = .ok (.ldc2_w 132, 3) := by decide +kernel
theorem dDV_cell_33 : decode cDV_cell 33 = .ok (.lreturn, 1) := by decide +kernel
theorem dDV_cell_34 : decode cDV_cell 34 = .ok (.aload_n 0, 1) := by decide +kernel
theorem dDV_cell_35 : decode cDV_cell 35 = .ok (.iload_n 1, 1) := by decide +kernel
theorem dDV_cell_36 : decode cDV_cell 36 = .ok (.invokevirtual 124, 3) := by decide +kernel
theorem dDV_cell_39 : decode cDV_cell 39 = .ok (.iload_n 2, 1) := by decide +kernel
theorem dDV_cell_40 : decode cDV_cell 40 = .ok (.iload_n 3, 1) := by decide +kernel
theorem dDV_cell_41 : decode cDV_cell 41 = .ok (.invokevirtual 135, 3) := by decide +kernel
theorem dDV_cell_44 : decode cDV_cell 44 = .ok (.i2l, 1) := by decide +kernel
theorem dDV_cell_45 : decode cDV_cell 45 = .ok (.lreturn, 1) := by decide +kernel
theorem dDV_total_0 : decode cDV_total 0 = .ok (.aload_n 0, 1) := by decide +kernel
theorem dDV_total_1 : decode cDV_total 1 = .ok (.iload_n 1, 1) := by decide +kernel
theorem dDV_total_2 : decode cDV_total 2 = .ok (.invokevirtual 61, 3) := by decide +kernel
theorem dDV_total_5 : decode cDV_total 5 = .ok (.ifCond .eq 14, 3) := by decide +kernel
theorem dDV_total_8 : decode cDV_total 8 = .ok (.aload_n 0, 1) := by decide +kernel
theorem dDV_total_9 : decode cDV_total 9 = .ok (.iload_n 1, 1) := by decide +kernel
theorem dDV_total_10 : decode cDV_total 10 = .ok (.invokevirtual 124, 3) := by decide +kernel
theorem dDV_total_13 : decode cDV_total 13 = .ok (.invokevirtual 139, 3) := by decide +kernel
theorem dDV_total_16 : decode cDV_total 16 = .ok (.goto 6, 3) := by decide +kernel
theorem dDV_total_19 : decode cDV_total 19 = .ok (.ldc2_w 132, 3) := by decide +kernel
theorem dDV_total_22 : decode cDV_total 22 = .ok (.lreturn, 1) := by decide +kernel
theorem dDV_changed_0 : decode cDV_changed 0 = .ok (.aload_n 0, 1) := by decide +kernel
theorem dDV_changed_1 : decode cDV_changed 1 = .ok (.iload_n 1, 1) := by decide +kernel
theorem dDV_changed_2 : decode cDV_changed 2 = .ok (.invokevirtual 61, 3) := by decide +kernel
theorem dDV_changed_5 : decode cDV_changed 5 = .ok (.ifCond .eq 12, 3) := by decide +kernel
theorem dDV_changed_8 : decode cDV_changed 8 = .ok (.aload_n 0, 1) := by decide +kernel
theorem dDV_changed_9 : decode cDV_changed 9 = .ok (.getfield 42, 3) := by decide +kernel
theorem dDV_changed_12 : decode cDV_changed 12 = .ok (.iload_n 1, 1) := by decide +kernel
theorem dDV_changed_13 : decode cDV_changed 13 = .ok (.iaload, 1) := by decide +kernel
theorem dDV_changed_14 : decode cDV_changed 14 = .ok (.goto 4, 3) := by decide +kernel
theorem dDV_changed_17 : decode cDV_changed 17 = .ok (.iconst (-1), 1) := by decide +kernel
theorem dDV_changed_18 : decode cDV_changed 18 = .ok (.ireturn, 1) := by decide +kernel
theorem dDV_mean_0 : decode cDV_mean 0 = .ok (.aload_n 0, 1) := by decide +kernel
theorem dDV_mean_1 : decode cDV_mean 1 = .ok (.iload_n 1, 1) := by decide +kernel
theorem dDV_mean_2 : decode cDV_mean 2 = .ok (.invokevirtual 61, 3) := by decide +kernel
theorem dDV_mean_5 : decode cDV_mean 5 = .ok (.ifCond .eq 10, 3) := by decide +kernel
theorem dDV_mean_8 : decode cDV_mean 8 = .ok (.iload_n 2, 1) := by decide +kernel
theorem dDV_mean_9 : decode cDV_mean 9 = .ok (.invokestatic 64, 3) := by decide +kernel
theorem dDV_mean_12 : decode cDV_mean 12 = .ok (.ifCond .ne 5, 3) := by decide +kernel
theorem dDV_mean_15 : decode cDV_mean 15 = .ok (.dconst 0, 1) := by decide +kernel
theorem dDV_mean_16 : decode cDV_mean 16 = .ok (.dreturn, 1) := by decide +kernel
theorem dDV_mean_17 : decode cDV_mean 17 = .ok (.aload_n 0, 1) := by decide +kernel
theorem dDV_mean_18 : decode cDV_mean 18 = .ok (.iload_n 1, 1) := by decide +kernel
theorem dDV_mean_19 : decode cDV_mean 19 = .ok (.invokevirtual 124, 3) := by decide +kernel
theorem dDV_mean_22 : decode cDV_mean 22 = .ok (.invokevirtual 139, 3) := by decide +kernel
theorem dDV_mean_25 : decode cDV_mean 25 = .ok (.lstore_n 3, 1) := by decide +kernel
theorem dDV_mean_26 : decode cDV_mean 26 = .ok (.lload_n 3, 1) := by decide +kernel
theorem dDV_mean_27 : decode cDV_mean 27 = .ok (.lconst 0, 1) := by decide +kernel
theorem dDV_mean_28 : decode cDV_mean 28 = .ok (.lcmp, 1) := by decide +kernel
theorem dDV_mean_29 : decode cDV_mean 29 = .ok (.ifCond .ne 5, 3) := by decide +kernel
theorem dDV_mean_32 : decode cDV_mean 32 = .ok (.dconst 0, 1) := by decide +kernel
theorem dDV_mean_33 : decode cDV_mean 33 = .ok (.dreturn, 1) := by decide +kernel
theorem dDV_mean_34 : decode cDV_mean 34 = .ok (.aload_n 0, 1) := by decide +kernel
theorem dDV_mean_35 : decode cDV_mean 35 = .ok (.iload_n 1, 1) := by decide +kernel
theorem dDV_mean_36 : decode cDV_mean 36 = .ok (.invokevirtual 124, 3) := by decide +kernel
theorem dDV_mean_39 : decode cDV_mean 39 = .ok (.iload_n 2, 1) := by decide +kernel
theorem dDV_mean_40 : decode cDV_mean 40 = .ok (.invokevirtual 143, 3) := by decide +kernel
theorem dDV_mean_43 : decode cDV_mean 43 = .ok (.l2d, 1) := by decide +kernel
theorem dDV_mean_44 : decode cDV_mean 44 = .ok (.lload_n 3, 1) := by decide +kernel
theorem dDV_mean_45 : decode cDV_mean 45 = .ok (.l2d, 1) := by decide +kernel
theorem dDV_mean_46 : decode cDV_mean 46 = .ok (.ddiv, 1) := by decide +kernel
theorem dDV_mean_47 : decode cDV_mean 47 = .ok (.dreturn, 1) := by decide +kernel
theorem dDV_count_0 : decode cDV_count 0 = .ok (.iload_n 1, 1) := by decide +kernel
theorem dDV_count_1 : decode cDV_count 1 = .ok (.ifCond .ne 8, 3) := by decide +kernel
theorem dDV_count_4 : decode cDV_count 4 = .ok (.aload_n 0, 1) := by decide +kernel
theorem dDV_count_5 : decode cDV_count 5 = .ok (.getfield 46, 3) := by decide +kernel
theorem dDV_count_8 : decode cDV_count 8 = .ok (.ireturn, 1) := by decide +kernel
theorem dDV_count_9 : decode cDV_count 9 = .ok (.iload_n 1, 1) := by decide +kernel
theorem dDV_count_10 : decode cDV_count 10 = .ok (.iconst 1, 1) := by decide +kernel
theorem dDV_count_11 : decode cDV_count 11 = .ok (.if_icmp .ne 11, 3) := by decide +kernel
theorem dDV_count_14 : decode cDV_count 14 = .ok (.aload_n 0, 1) := by decide +kernel
theorem dDV_count_15 : decode cDV_count 15 = .ok (.getfield 32, 3) := by decide +kernel
theorem dDV_count_18 : decode cDV_count 18 = .ok (.invokevirtual 99, 3) := by decide +kernel
theorem dDV_count_21 : decode cDV_count 21 = .ok (.ireturn, 1) := by decide +kernel
theorem dDV_count_22 : decode cDV_count 22 = .ok (.iload_n 1, 1) := by decide +kernel
theorem dDV_count_23 : decode cDV_count 23 = .ok (.iconst 2, 1) := by decide +kernel
theorem dDV_count_24 : decode cDV_count 24 = .ok (.if_icmp .lt 20, 3) := by decide +kernel
theorem dDV_count_27 : decode cDV_count 27 = .ok (.iload_n 1, 1) := by decide +kernel
theorem dDV_count_28 : decode cDV_count 28 = .ok (.iconst 5, 1) := by decide +kernel
theorem dDV_count_29 : decode cDV_count 29 = .ok (.if_icmp .ge 15, 3) := by decide +kernel
theorem dDV_count_32 : decode cDV_count 32 = .ok (.aload_n 0, 1) := by decide +kernel
theorem dDV_count_33 : decode cDV_count 33 = .ok (.getfield 13, 3) := by decide +kernel
theorem dDV_count_36 : decode cDV_count 36 = .ok (.iload_n 1, 1) := by decide +kernel
theorem dDV_count_37 : decode cDV_count 37 = .ok (.iconst 2, 1) := by decide +kernel
theorem dDV_count_38 : decode cDV_count 38 = .ok (.isub, 1) := by decide +kernel
theorem dDV_count_39 : decode cDV_count 39 = .ok (.aaload, 1) := by decide +kernel
theorem dDV_count_40 : decode cDV_count 40 = .ok (.invokevirtual 134, 3) := by decide +kernel
theorem dDV_count_43 : decode cDV_count 43 = .ok (.ireturn, 1) := by decide +kernel
theorem dDV_count_44 : decode cDV_count 44 = .ok (.iconst (-1), 1) := by decide +kernel
theorem dDV_count_45 : decode cDV_count 45 = .ok (.ireturn, 1) := by decide +kernel
end
section
theorem dMD_init_0 : decode cMD_init 0 = .ok (.aload_n 0, 1) := by decide +kernel
theorem dMD_init_1 : decode cMD_init 1 = .ok (.invokespecial 1, 3) := by decide +kernel
theorem dMD_init_4 : decode cMD_init 4 = .ok (.aload_n 0, 1) := by decide +kernel
theorem dMD_init_5 : decode cMD_init 5 = .ok (.sipush 624, 3) := by decide +kernel
theorem dMD_init_8 : decode cMD_init 8 = .ok (.newarray .int, 2) := by decide +kernel
theorem dMD_init_10 : decode cMD_init 10 = .ok (.putfield 7, 3) := by decide +kernel
theorem dMD_init_13 : decode cMD_init 13 = .ok (.aload_n 0, 1) := by decide +kernel
theorem dMD_init_14 : decode cMD_init 14 = .ok (.sipush 624, 3) := by decide +kernel
theorem dMD_init_17 : decode cMD_init 17 = .ok (.newarray .int, 2) := by decide +kernel
theorem dMD_init_19 : decode cMD_init 19 = .ok (.putfield 13, 3) := by decide +kernel
theorem dMD_init_22 : decode cMD_init 22 = .ok (.aload_n 0, 1) := by decide +kernel
theorem dMD_init_23 : decode cMD_init 23 = .ok (.sipush 624, 3) := by decide +kernel
theorem dMD_init_26 : decode cMD_init 26 = .ok (.newarray .int, 2) := by decide +kernel
theorem dMD_init_28 : decode cMD_init 28 = .ok (.putfield 16, 3) := by decide +kernel
theorem dMD_init_31 : decode cMD_init 31 = .ok (.aload_n 0, 1) := by decide +kernel
theorem dMD_init_32 : decode cMD_init 32 = .ok (.sipush 624, 3) := by decide +kernel
theorem dMD_init_35 : decode cMD_init 35 = .ok (.newarray .long, 2) := by decide +kernel
theorem dMD_init_37 : decode cMD_init 37 = .ok (.putfield 19, 3) := by decide +kernel
theorem dMD_init_40 : decode cMD_init 40 = .ok (.aload_n 0, 1) := by decide +kernel
theorem dMD_init_41 : decode cMD_init 41 = .ok (.bipush 26, 2) := by decide +kernel
theorem dMD_init_43 : decode cMD_init 43 = .ok (.newarray .int, 2) := by decide +kernel
theorem dMD_init_45 : decode cMD_init 45 = .ok (.putfield 23, 3) := by decide +kernel
theorem dMD_init_48 : decode cMD_init 48 = .ok (.aload_n 0, 1) := by decide +kernel
theorem dMD_init_49 : decode cMD_init 49 = .ok (.sipush 600, 3) := by decide +kernel
theorem dMD_init_52 : decode cMD_init 52 = .ok (.newarray .int, 2) := by decide +kernel
theorem dMD_init_54 : decode cMD_init 54 = .ok (.putfield 26, 3) := by decide +kernel
theorem dMD_init_57 : decode cMD_init 57 = .ok (.aload_n 0, 1) := by decide +kernel
theorem dMD_init_58 : decode cMD_init 58 = .ok (.sipush 600, 3) := by decide +kernel
theorem dMD_init_61 : decode cMD_init 61 = .ok (.newarray .int, 2) := by decide +kernel
theorem dMD_init_63 : decode cMD_init 63 = .ok (.putfield 29, 3) := by decide +kernel
theorem dMD_init_66 : decode cMD_init 66 = .ok (.aload_n 0, 1) := by decide +kernel
theorem dMD_init_67 : decode cMD_init 67 = .ok (.sipush 600, 3) := by decide +kernel
theorem dMD_init_70 : decode cMD_init 70 = .ok (.newarray .int, 2) := by decide +kernel
theorem dMD_init_72 : decode cMD_init 72 = .ok (.putfield 32, 3) := by decide +kernel
theorem dMD_init_75 : decode cMD_init 75 = .ok (.aload_n 0, 1) := by decide +kernel
theorem dMD_init_76 : decode cMD_init 76 = .ok (.sipush 600, 3) := by decide +kernel
theorem dMD_init_79 : decode cMD_init 79 = .ok (.newarray .long, 2) := by decide +kernel
theorem dMD_init_81 : decode cMD_init 81 = .ok (.putfield 35, 3) := by decide +kernel
theorem dMD_init_84 : decode cMD_init 84 = .ok (.aload_n 0, 1) := by decide +kernel
theorem dMD_init_85 : decode cMD_init 85 = .ok (.bipush 10, 2) := by decide +kernel
theorem dMD_init_87 : decode cMD_init 87 = .ok (.newarray .int, 2) := by decide +kernel
theorem dMD_init_89 : decode cMD_init 89 = .ok (.putfield 38, 3) := by decide +kernel
theorem dMD_init_92 : decode cMD_init 92 = .ok (.aload_n 0, 1) := by decide +kernel
theorem dMD_init_93 : decode cMD_init 93 = .ok (.bipush 50, 2) := by decide +kernel
theorem dMD_init_95 : decode cMD_init 95 = .ok (.newarray .int, 2) := by decide +kernel
theorem dMD_init_97 : decode cMD_init 97 = .ok (.putfield 41, 3) := by decide +kernel
theorem dMD_init_100 : decode cMD_init 100 = .ok (.aload_n 0, 1) := by decide +kernel
theorem dMD_init_101 : decode cMD_init 101 = .ok (.bipush 10, 2) := by decide +kernel
theorem dMD_init_103 : decode cMD_init 103 = .ok (.newarray .int, 2) := by decide +kernel
theorem dMD_init_105 : decode cMD_init 105 = .ok (.putfield 44, 3) := by decide +kernel
theorem dMD_init_108 : decode cMD_init 108 = .ok (.aload_n 0, 1) := by decide +kernel
theorem dMD_init_109 : decode cMD_init 109 = .ok (.bipush 12, 2) := by decide +kernel
theorem dMD_init_111 : decode cMD_init 111 = .ok (.newarray .int, 2) := by decide +kernel
theorem dMD_init_113 : decode cMD_init 113 = .ok (.putfield 47, 3) := by decide +kernel
theorem dMD_init_116 : decode cMD_init 116 = .ok (.aload_n 0, 1) := by decide +kernel
theorem dMD_init_117 : decode cMD_init 117 = .ok (.bipush 12, 2) := by decide +kernel
theorem dMD_init_119 : decode cMD_init 119 = .ok (.newarray .int, 2) := by decide +kernel
theorem dMD_init_121 : decode cMD_init 121 = .ok (.putfield 50, 3) := by decide +kernel
theorem dMD_init_124 : decode cMD_init 124 = .ok (.aload_n 0, 1) := by decide +kernel
theorem dMD_init_125 : decode cMD_init 125 = .ok (.bipush 12, 2) := by decide +kernel
theorem dMD_init_127 : decode cMD_init 127 = .ok (.newarray .int, 2) := by decide +kernel
theorem dMD_init_129 : decode cMD_init 129 = .ok (.putfield 53, 3) := by decide +kernel
theorem dMD_init_132 : decode cMD_init 132 = .ok (.aload_n 0, 1) := by decide +kernel
theorem dMD_init_133 : decode cMD_init 133 = .ok (.bipush 12, 2) := by decide +kernel
theorem dMD_init_135 : decode cMD_init 135 = .ok (.newarray .int, 2) := by decide +kernel
theorem dMD_init_137 : decode cMD_init 137 = .ok (.putfield 56, 3) := by decide +kernel
theorem dMD_init_140 : decode cMD_init 140 = .ok (.aload_n 0, 1) := by decide +kernel
theorem dMD_init_141 : decode cMD_init 141 = .ok (.bipush 12, 2) := by decide +kernel
theorem dMD_init_143 : decode cMD_init 143 = .ok (.newarray .int, 2) := by decide +kernel
theorem dMD_init_145 : decode cMD_init 145 = .ok (.putfield 59, 3) := by decide +kernel
theorem dMD_init_148 : decode cMD_init 148 = .ok (.return_, 1) := by decide +kernel
theorem dMD_table_0 : decode cMD_table 0 = .ok (.aload_n 0, 1) := by decide +kernel
theorem dMD_table_1 : decode cMD_table 1 = .ok (.iload_n 1, 1) := by decide +kernel
theorem dMD_table_2 : decode cMD_table 2 = .ok (.iconst 3, 1) := by decide +kernel
theorem dMD_table_3 : decode cMD_table 3 = .ok (.invokevirtual 112, 3) := by decide +kernel
theorem dMD_table_6 : decode cMD_table 6 = .ok (.ifCond .eq 7, 3) := by decide +kernel
theorem dMD_table_9 : decode cMD_table 9 = .ok (.iconst (-1), 1) := by decide +kernel
theorem dMD_table_10 : decode cMD_table 10 = .ok (.goto 13, 3) := by decide +kernel
theorem dMD_table_13 : decode cMD_table 13 = .ok (.aload_n 0, 1) := by decide +kernel
theorem dMD_table_14 : decode cMD_table 14 = .ok (.iconst 0, 1) := by decide +kernel
theorem dMD_table_15 : decode cMD_table 15 = .ok (.iload_n 1, 1) := by decide +kernel
theorem dMD_table_16 : decode cMD_table 16 = .ok (.iconst 0, 1) := by decide +kernel
theorem dMD_table_17 : decode cMD_table 17 = .ok (.iconst 0, 1) := by decide +kernel
theorem dMD_table_18 : decode cMD_table 18 = .ok (.iconst 0, 1) := by decide +kernel
theorem dMD_table_19 : decode cMD_table 19 = .ok (.iconst 0, 1) := by decide +kernel
theorem dMD_table_20 : decode cMD_table 20 = .ok (.invokevirtual 115, 3) := by decide +kernel
theorem dMD_table_23 : decode cMD_table 23 = .ok (.ireturn, 1) := by decide +kernel
theorem dMD_out_0 : decode cMD_out 0 = .ok (.iload_n 1, 1) := by decide +kernel
theorem dMD_out_1 : decode cMD_out 1 = .ok (.ifCond .lt 8, 3) := by decide +kernel
theorem dMD_out_4 : decode cMD_out 4 = .ok (.iload_n 1, 1) := by decide +kernel
theorem dMD_out_5 : decode cMD_out 5 = .ok (.iload_n 2, 1) := by decide +kernel
theorem dMD_out_6 : decode cMD_out 6 = .ok (.if_icmp .lt 7, 3) := by decide +kernel
theorem dMD_out_9 : decode cMD_out 9 = .ok (.iconst 1, 1) := by decide +kernel
theorem dMD_out_10 : decode cMD_out 10 = .ok (.goto 4, 3) := by decide +kernel
theorem dMD_out_13 : decode cMD_out 13 = .ok (.iconst 0, 1) := by decide +kernel
theorem dMD_out_14 : decode cMD_out 14 = .ok (.ireturn, 1) := by decide +kernel
theorem dMD_make_0 : decode cMD_make 0 = .ok (.aload_n 0, 1) := by decide +kernel
theorem dMD_make_1 : decode cMD_make 1 = .ok (.getfield 106, 3) := by decide +kernel
theorem dMD_make_4 : decode cMD_make 4 = .ok (.bipush 10, 2) := by decide +kernel
theorem dMD_make_6 : decode cMD_make 6 = .ok (.if_icmp .ne 6, 3) := by decide +kernel
theorem dMD_make_9 : decode cMD_make 9 = .ok (.bipush (-2), 2) := by decide +kernel
theorem dMD_make_11 : decode cMD_make 11 = .ok (.ireturn, 1) := by decide +kernel
theorem dMD_make_12 : decode cMD_make 12 = .ok (.aload_n 0, 1) := by decide +kernel
theorem dMD_make_13 : decode cMD_make 13 = .ok (.getfield 38, 3) := by decide +kernel
theorem dMD_make_16 : decode cMD_make 16 = .ok (.aload_n 0, 1) := by decide +kernel
theorem dMD_make_17 : decode cMD_make 17 = .ok (.getfield 106, 3) := by decide +kernel
theorem dMD_make_20 : decode cMD_make 20 = .ok (.iload_n 1, 1) := by decide +kernel
theorem dMD_make_21 : decode cMD_make 21 = .ok (.iastore, 1) := by decide +kernel
theorem dMD_make_22 : decode cMD_make 22 = .ok (.aload_n 0, 1) := by decide +kernel
theorem dMD_make_23 : decode cMD_make 23 = .ok (.getfield 41, 3) := by decide +kernel
theorem dMD_make_26 : decode cMD_make 26 = .ok (.aload_n 0, 1) := by decide +kernel
theorem dMD_make_27 : decode cMD_make 27 = .ok (.getfield 106, 3) := by decide +kernel
theorem dMD_make_30 : decode cMD_make 30 = .ok (.iconst 5, 1) := by decide +kernel
theorem dMD_make_31 : decode cMD_make 31 = .ok (.imul, 1) := by decide +kernel
theorem dMD_make_32 : decode cMD_make 32 = .ok (.iload_n 2, 1) := by decide +kernel
theorem dMD_make_33 : decode cMD_make 33 = .ok (.iastore, 1) := by decide +kernel
theorem dMD_make_34 : decode cMD_make 34 = .ok (.aload_n 0, 1) := by decide +kernel
theorem dMD_make_35 : decode cMD_make 35 = .ok (.getfield 41, 3) := by decide +kernel
theorem dMD_make_38 : decode cMD_make 38 = .ok (.aload_n 0, 1) := by decide +kernel
theorem dMD_make_39 : decode cMD_make 39 = .ok (.getfield 106, 3) := by decide +kernel
theorem dMD_make_42 : decode cMD_make 42 = .ok (.iconst 5, 1) := by decide +kernel
theorem dMD_make_43 : decode cMD_make 43 = .ok (.imul, 1) := by decide +kernel
theorem dMD_make_44 : decode cMD_make 44 = .ok (.iconst 1, 1) := by decide +kernel
theorem dMD_make_45 : decode cMD_make 45 = .ok (.iadd, 1) := by decide +kernel
theorem dMD_make_46 : decode cMD_make 46 = .ok (.iload_n 3, 1) := by decide +kernel
theorem dMD_make_47 : decode cMD_make 47 = .ok (.iastore, 1) := by decide +kernel
theorem dMD_make_48 : decode cMD_make 48 = .ok (.aload_n 0, 1) := by decide +kernel
theorem dMD_make_49 : decode cMD_make 49 = .ok (.getfield 41, 3) := by decide +kernel
theorem dMD_make_52 : decode cMD_make 52 = .ok (.aload_n 0, 1) := by decide +kernel
theorem dMD_make_53 : decode cMD_make 53 = .ok (.getfield 106, 3) := by decide +kernel
theorem dMD_make_56 : decode cMD_make 56 = .ok (.iconst 5, 1) := by decide +kernel
theorem dMD_make_57 : decode cMD_make 57 = .ok (.imul, 1) := by decide +kernel
theorem dMD_make_58 : decode cMD_make 58 = .ok (.iconst 2, 1) := by decide +kernel
theorem dMD_make_59 : decode cMD_make 59 = .ok (.iadd, 1) := by decide +kernel
theorem dMD_make_60 : decode cMD_make 60 = .ok (.iload 4, 2) := by decide +kernel
theorem dMD_make_62 : decode cMD_make 62 = .ok (.iastore, 1) := by decide +kernel
theorem dMD_make_63 : decode cMD_make 63 = .ok (.aload_n 0, 1) := by decide +kernel
theorem dMD_make_64 : decode cMD_make 64 = .ok (.getfield 41, 3) := by decide +kernel
theorem dMD_make_67 : decode cMD_make 67 = .ok (.aload_n 0, 1) := by decide +kernel
theorem dMD_make_68 : decode cMD_make 68 = .ok (.getfield 106, 3) := by decide +kernel
theorem dMD_make_71 : decode cMD_make 71 = .ok (.iconst 5, 1) := by decide +kernel
theorem dMD_make_72 : decode cMD_make 72 = .ok (.imul, 1) := by decide +kernel
theorem dMD_make_73 : decode cMD_make 73 = .ok (.iconst 3, 1) := by decide +kernel
theorem dMD_make_74 : decode cMD_make 74 = .ok (.iadd, 1) := by decide +kernel
theorem dMD_make_75 : decode cMD_make 75 = .ok (.iload 5, 2) := by decide +kernel
theorem dMD_make_77 : decode cMD_make 77 = .ok (.iastore, 1) := by decide +kernel
theorem dMD_make_78 : decode cMD_make 78 = .ok (.aload_n 0, 1) := by decide +kernel
theorem dMD_make_79 : decode cMD_make 79 = .ok (.getfield 41, 3) := by decide +kernel
theorem dMD_make_82 : decode cMD_make 82 = .ok (.aload_n 0, 1) := by decide +kernel
theorem dMD_make_83 : decode cMD_make 83 = .ok (.getfield 106, 3) := by decide +kernel
theorem dMD_make_86 : decode cMD_make 86 = .ok (.iconst 5, 1) := by decide +kernel
theorem dMD_make_87 : decode cMD_make 87 = .ok (.imul, 1) := by decide +kernel
theorem dMD_make_88 : decode cMD_make 88 = .ok (.iconst 4, 1) := by decide +kernel
theorem dMD_make_89 : decode cMD_make 89 = .ok (.iadd, 1) := by decide +kernel
theorem dMD_make_90 : decode cMD_make 90 = .ok (.iload 6, 2) := by decide +kernel
theorem dMD_make_92 : decode cMD_make 92 = .ok (.iastore, 1) := by decide +kernel
theorem dMD_make_93 : decode cMD_make 93 = .ok (.aload_n 0, 1) := by decide +kernel
theorem dMD_make_94 : decode cMD_make 94 = .ok (.aload_n 0, 1) := by decide +kernel
theorem dMD_make_95 : decode cMD_make 95 = .ok (.getfield 106, 3) := by decide +kernel
theorem dMD_make_98 : decode cMD_make 98 = .ok (.iconst 0, 1) := by decide +kernel
theorem dMD_make_99 : decode cMD_make 99 = .ok (.invokevirtual 109, 3) := by decide +kernel
theorem dMD_make_102 : decode cMD_make 102 = .ok (.ifCond .ne 6, 3) := by decide +kernel
theorem dMD_make_105 : decode cMD_make 105 = .ok (.bipush (-2), 2) := by decide +kernel
theorem dMD_make_107 : decode cMD_make 107 = .ok (.ireturn, 1) := by decide +kernel
theorem dMD_make_108 : decode cMD_make 108 = .ok (.aload_n 0, 1) := by decide +kernel
theorem dMD_make_109 : decode cMD_make 109 = .ok (.getfield 44, 3) := by decide +kernel
theorem dMD_make_112 : decode cMD_make 112 = .ok (.aload_n 0, 1) := by decide +kernel
theorem dMD_make_113 : decode cMD_make 113 = .ok (.getfield 106, 3) := by decide +kernel
theorem dMD_make_116 : decode cMD_make 116 = .ok (.iconst 0, 1) := by decide +kernel
theorem dMD_make_117 : decode cMD_make 117 = .ok (.iastore, 1) := by decide +kernel
theorem dMD_make_118 : decode cMD_make 118 = .ok (.aload_n 0, 1) := by decide +kernel
theorem dMD_make_119 : decode cMD_make 119 = .ok (.dup, 1) := by decide +kernel
theorem dMD_make_120 : decode cMD_make 120 = .ok (.getfield 106, 3) := by decide +kernel
theorem dMD_make_123 : decode cMD_make 123 = .ok (.iconst 1, 1) := by decide +kernel
theorem dMD_make_124 : decode cMD_make 124 = .ok (.iadd, 1) := by decide +kernel
theorem dMD_make_125 : decode cMD_make 125 = .ok (.putfield 106, 3) := by decide +kernel
theorem dMD_make_128 : decode cMD_make 128 = .ok (.aload_n 0, 1) := by decide +kernel
theorem dMD_make_129 : decode cMD_make 129 = .ok (.getfield 106, 3) := by decide +kernel
theorem dMD_make_132 : decode cMD_make 132 = .ok (.iconst 1, 1) := by decide +kernel
theorem dMD_make_133 : decode cMD_make 133 = .ok (.isub, 1) := by decide +kernel
theorem dMD_make_134 : decode cMD_make 134 = .ok (.ireturn, 1) := by decide +kernel
theorem dMD_evaluate_0 : decode cMD_evaluate 0 = .ok (.aload_n 0, 1) := by decide +kernel
theorem dMD_evaluate_1 : decode cMD_evaluate 1 = .ok (.iconst 0, 1) := by decide +kernel
theorem dMD_evaluate_2 : decode cMD_evaluate 2 = .ok (.putfield 62, 3) := by decide +kernel
theorem dMD_evaluate_5 : decode cMD_evaluate 5 = .ok (.aload_n 0, 1) := by decide +kernel
theorem dMD_evaluate_6 : decode cMD_evaluate 6 = .ok (.getfield 41, 3) := by decide +kernel
theorem dMD_evaluate_9 : decode cMD_evaluate 9 = .ok (.iload_n 1, 1) := by decide +kernel
theorem dMD_evaluate_10 : decode cMD_evaluate 10 = .ok (.iconst 5, 1) := by decide +kernel
theorem dMD_evaluate_11 : decode cMD_evaluate 11 = .ok (.imul, 1) := by decide +kernel
theorem dMD_evaluate_12 : decode cMD_evaluate 12 = .ok (.iaload, 1) := by decide +kernel
theorem dMD_evaluate_13 : decode cMD_evaluate 13 = .ok (.istore_n 3, 1) := by decide +kernel
theorem dMD_evaluate_14 : decode cMD_evaluate 14 = .ok (.aload_n 0, 1) := by decide +kernel
theorem dMD_evaluate_15 : decode cMD_evaluate 15 = .ok (.getfield 38, 3) := by decide +kernel
theorem dMD_evaluate_18 : decode cMD_evaluate 18 = .ok (.iload_n 1, 1) := by decide +kernel
theorem dMD_evaluate_19 : decode cMD_evaluate 19 = .ok (.iaload, 1) := by decide +kernel
theorem dMD_evaluate_20 : decode cMD_evaluate 20 = .ok (.ifCond .ne 9, 3) := by decide +kernel
theorem dMD_evaluate_23 : decode cMD_evaluate 23 = .ok (.iload_n 2, 1) := by decide +kernel
theorem dMD_evaluate_24 : decode cMD_evaluate 24 = .ok (.iload_n 3, 1) := by decide +kernel
theorem dMD_evaluate_25 : decode cMD_evaluate 25 = .ok (.iadd, 1) := by decide +kernel
theorem dMD_evaluate_26 : decode cMD_evaluate 26 = .ok (.goto 8, 3) := by decide +kernel
theorem dMD_evaluate_29 : decode cMD_evaluate 29 = .ok (.iload_n 2, 1) := by decide +kernel
theorem dMD_evaluate_30 : decode cMD_evaluate 30 = .ok (.iconst 3, 1) := by decide +kernel
theorem dMD_evaluate_31 : decode cMD_evaluate 31 = .ok (.iadd, 1) := by decide +kernel
theorem dMD_evaluate_32 : decode cMD_evaluate 32 = .ok (.iload_n 3, 1) := by decide +kernel
theorem dMD_evaluate_33 : decode cMD_evaluate 33 = .ok (.iadd, 1) := by decide +kernel
theorem dMD_evaluate_34 : decode cMD_evaluate 34 = .ok (.istore 4, 2) := by decide +kernel
theorem dMD_evaluate_36 : decode cMD_evaluate 36 = .ok (.iload_n 2, 1) := by decide +kernel
theorem dMD_evaluate_37 : decode cMD_evaluate 37 = .ok (.iconst 3, 1) := by decide +kernel
theorem dMD_evaluate_38 : decode cMD_evaluate 38 = .ok (.iadd, 1) := by decide +kernel
theorem dMD_evaluate_39 : decode cMD_evaluate 39 = .ok (.aload_n 0, 1) := by decide +kernel
theorem dMD_evaluate_40 : decode cMD_evaluate 40 = .ok (.getfield 41, 3) := by decide +kernel
theorem dMD_evaluate_43 : decode cMD_evaluate 43 = .ok (.iload_n 1, 1) := by decide +kernel
theorem dMD_evaluate_44 : decode cMD_evaluate 44 = .ok (.iconst 5, 1) := by decide +kernel
theorem dMD_evaluate_45 : decode cMD_evaluate 45 = .ok (.imul, 1) := by decide +kernel
theorem dMD_evaluate_46 : decode cMD_evaluate 46 = .ok (.iconst 1, 1) := by decide +kernel
theorem dMD_evaluate_47 : decode cMD_evaluate 47 = .ok (.iadd, 1) := by decide +kernel
theorem dMD_evaluate_48 : decode cMD_evaluate 48 = .ok (.iaload, 1) := by decide +kernel
theorem dMD_evaluate_49 : decode cMD_evaluate 49 = .ok (.iadd, 1) := by decide +kernel
theorem dMD_evaluate_50 : decode cMD_evaluate 50 = .ok (.istore 5, 2) := by decide +kernel
theorem dMD_evaluate_52 : decode cMD_evaluate 52 = .ok (.iload 4, 2) := by decide +kernel
theorem dMD_evaluate_54 : decode cMD_evaluate 54 = .ok (.bipush 24, 2) := by decide +kernel
theorem dMD_evaluate_56 : decode cMD_evaluate 56 = .ok (.imul, 1) := by decide +kernel
theorem dMD_evaluate_57 : decode cMD_evaluate 57 = .ok (.istore 6, 2) := by decide +kernel
theorem dMD_evaluate_59 : decode cMD_evaluate 59 = .ok (.iload 6, 2) := by decide +kernel
theorem dMD_evaluate_61 : decode cMD_evaluate 61 = .ok (.iload 4, 2) := by decide +kernel
theorem dMD_evaluate_63 : decode cMD_evaluate 63 = .ok (.bipush 24, 2) := by decide +kernel
theorem dMD_evaluate_65 : decode cMD_evaluate 65 = .ok (.imul, 1) := by decide +kernel
theorem dMD_evaluate_66 : decode cMD_evaluate 66 = .ok (.aload_n 0, 1) := by decide +kernel
theorem dMD_evaluate_67 : decode cMD_evaluate 67 = .ok (.getfield 23, 3) := by decide +kernel
theorem dMD_evaluate_70 : decode cMD_evaluate 70 = .ok (.iload 4, 2) := by decide +kernel
theorem dMD_evaluate_72 : decode cMD_evaluate 72 = .ok (.iaload, 1) := by decide +kernel
theorem dMD_evaluate_73 : decode cMD_evaluate 73 = .ok (.iadd, 1) := by decide +kernel
theorem dMD_evaluate_74 : decode cMD_evaluate 74 = .ok (.if_icmp .ge 85, 3) := by decide +kernel
theorem dMD_evaluate_77 : decode cMD_evaluate 77 = .ok (.aload_n 0, 1) := by decide +kernel
theorem dMD_evaluate_78 : decode cMD_evaluate 78 = .ok (.getfield 38, 3) := by decide +kernel
theorem dMD_evaluate_81 : decode cMD_evaluate 81 = .ok (.iload_n 1, 1) := by decide +kernel
theorem dMD_evaluate_82 : decode cMD_evaluate 82 = .ok (.iaload, 1) := by decide +kernel
theorem dMD_evaluate_83 : decode cMD_evaluate 83 = .ok (.iconst 3, 1) := by decide +kernel
theorem dMD_evaluate_84 : decode cMD_evaluate 84 = .ok (.if_icmp .ne 15, 3) := by decide +kernel
theorem dMD_evaluate_87 : decode cMD_evaluate 87 = .ok (.aload_n 0, 1) := by decide +kernel
theorem dMD_evaluate_88 : decode cMD_evaluate 88 = .ok (.iload_n 1, 1) := by decide +kernel
theorem dMD_evaluate_89 : decode cMD_evaluate 89 = .ok (.iload 6, 2) := by decide +kernel
theorem dMD_evaluate_91 : decode cMD_evaluate 91 = .ok (.iload 5, 2) := by decide +kernel
theorem dMD_evaluate_93 : decode cMD_evaluate 93 = .ok (.invokevirtual 96, 3) := by decide +kernel
theorem dMD_evaluate_96 : decode cMD_evaluate 96 = .ok (.goto 57, 3) := by decide +kernel
theorem dMD_evaluate_99 : decode cMD_evaluate 99 = .ok (.aload_n 0, 1) := by decide +kernel
theorem dMD_evaluate_100 : decode cMD_evaluate 100 = .ok (.getfield 38, 3) := by decide +kernel
theorem dMD_evaluate_103 : decode cMD_evaluate 103 = .ok (.iload_n 1, 1) := by decide +kernel
theorem dMD_evaluate_104 : decode cMD_evaluate 104 = .ok (.iaload, 1) := by decide +kernel
theorem dMD_evaluate_105 : decode cMD_evaluate 105 = .ok (.iconst 4, 1) := by decide +kernel
theorem dMD_evaluate_106 : decode cMD_evaluate 106 = .ok (.if_icmp .ne 38, 3) := by decide +kernel
theorem dMD_evaluate_109 : decode cMD_evaluate 109 = .ok (.aload_n 0, 1) := by decide +kernel
theorem dMD_evaluate_110 : decode cMD_evaluate 110 = .ok (.aload_n 0, 1) := by decide +kernel
theorem dMD_evaluate_111 : decode cMD_evaluate 111 = .ok (.getfield 7, 3) := by decide +kernel
theorem dMD_evaluate_114 : decode cMD_evaluate 114 = .ok (.iload 6, 2) := by decide +kernel
theorem dMD_evaluate_116 : decode cMD_evaluate 116 = .ok (.iaload, 1) := by decide +kernel
theorem dMD_evaluate_117 : decode cMD_evaluate 117 = .ok (.aload_n 0, 1) := by decide +kernel
theorem dMD_evaluate_118 : decode cMD_evaluate 118 = .ok (.getfield 13, 3) := by decide +kernel
theorem dMD_evaluate_121 : decode cMD_evaluate 121 = .ok (.iload 6, 2) := by decide +kernel
theorem dMD_evaluate_123 : decode cMD_evaluate 123 = .ok (.iaload, 1) := by decide +kernel
theorem dMD_evaluate_124 : decode cMD_evaluate 124 = .ok (.aload_n 0, 1) := by decide +kernel
theorem dMD_evaluate_125 : decode cMD_evaluate 125 = .ok (.getfield 16, 3) := by decide +kernel
theorem dMD_evaluate_128 : decode cMD_evaluate 128 = .ok (.iload 6, 2) := by decide +kernel
theorem dMD_evaluate_130 : decode cMD_evaluate 130 = .ok (.iaload, 1) := by decide +kernel
theorem dMD_evaluate_131 : decode cMD_evaluate 131 = .ok (.aload_n 0, 1) := by decide +kernel
theorem dMD_evaluate_132 : decode cMD_evaluate 132 = .ok (.getfield 19, 3) := by decide +kernel
theorem dMD_evaluate_135 : decode cMD_evaluate 135 = .ok (.iload 6, 2) := by decide +kernel
theorem dMD_evaluate_137 : decode cMD_evaluate 137 = .ok (.laload, 1) := by decide +kernel
theorem dMD_evaluate_138 : decode cMD_evaluate 138 = .ok (.invokevirtual 82, 3) := by decide +kernel
theorem dMD_evaluate_141 : decode cMD_evaluate 141 = .ok (.goto 12, 3) := by decide +kernel
theorem dMD_evaluate_144 : decode cMD_evaluate 144 = .ok (.aload_n 0, 1) := by decide +kernel
theorem dMD_evaluate_145 : decode cMD_evaluate 145 = .ok (.iload_n 1, 1) := by decide +kernel
theorem dMD_evaluate_146 : decode cMD_evaluate 146 = .ok (.iload 6, 2) := by decide +kernel
theorem dMD_evaluate_148 : decode cMD_evaluate 148 = .ok (.iload 4, 2) := by decide +kernel
theorem dMD_evaluate_150 : decode cMD_evaluate 150 = .ok (.invokevirtual 100, 3) := by decide +kernel
theorem dMD_evaluate_153 : decode cMD_evaluate 153 = .ok (.iinc 6 1, 3) := by decide +kernel
theorem dMD_evaluate_156 : decode cMD_evaluate 156 = .ok (.goto (-97), 3) := by decide +kernel
theorem dMD_evaluate_159 : decode cMD_evaluate 159 = .ok (.aload_n 0, 1) := by decide +kernel
theorem dMD_evaluate_160 : decode cMD_evaluate 160 = .ok (.getfield 38, 3) := by decide +kernel
theorem dMD_evaluate_163 : decode cMD_evaluate 163 = .ok (.iload_n 1, 1) := by decide +kernel
theorem dMD_evaluate_164 : decode cMD_evaluate 164 = .ok (.iaload, 1) := by decide +kernel
theorem dMD_evaluate_165 : decode cMD_evaluate 165 = .ok (.iconst 4, 1) := by decide +kernel
theorem dMD_evaluate_166 : decode cMD_evaluate 166 = .ok (.if_icmp .ne 90, 3) := by decide +kernel
theorem dMD_evaluate_169 : decode cMD_evaluate 169 = .ok (.iload 5, 2) := by decide +kernel
theorem dMD_evaluate_171 : decode cMD_evaluate 171 = .ok (.bipush 24, 2) := by decide +kernel
theorem dMD_evaluate_173 : decode cMD_evaluate 173 = .ok (.imul, 1) := by decide +kernel
theorem dMD_evaluate_174 : decode cMD_evaluate 174 = .ok (.istore 6, 2) := by decide +kernel
theorem dMD_evaluate_176 : decode cMD_evaluate 176 = .ok (.iload 6, 2) := by decide +kernel
theorem dMD_evaluate_178 : decode cMD_evaluate 178 = .ok (.iload 5, 2) := by decide +kernel
theorem dMD_evaluate_180 : decode cMD_evaluate 180 = .ok (.bipush 24, 2) := by decide +kernel
theorem dMD_evaluate_182 : decode cMD_evaluate 182 = .ok (.imul, 1) := by decide +kernel
theorem dMD_evaluate_183 : decode cMD_evaluate 183 = .ok (.aload_n 0, 1) := by decide +kernel
theorem dMD_evaluate_184 : decode cMD_evaluate 184 = .ok (.getfield 23, 3) := by decide +kernel
theorem dMD_evaluate_187 : decode cMD_evaluate 187 = .ok (.iload 5, 2) := by decide +kernel
theorem dMD_evaluate_189 : decode cMD_evaluate 189 = .ok (.iaload, 1) := by decide +kernel
theorem dMD_evaluate_190 : decode cMD_evaluate 190 = .ok (.iadd, 1) := by decide +kernel
theorem dMD_evaluate_191 : decode cMD_evaluate 191 = .ok (.if_icmp .ge 65, 3) := by decide +kernel
theorem dMD_evaluate_194 : decode cMD_evaluate 194 = .ok (.aload_n 0, 1) := by decide +kernel
theorem dMD_evaluate_195 : decode cMD_evaluate 195 = .ok (.aload_n 0, 1) := by decide +kernel
theorem dMD_evaluate_196 : decode cMD_evaluate 196 = .ok (.getfield 7, 3) := by decide +kernel
theorem dMD_evaluate_199 : decode cMD_evaluate 199 = .ok (.iload 6, 2) := by decide +kernel
theorem dMD_evaluate_201 : decode cMD_evaluate 201 = .ok (.iaload, 1) := by decide +kernel
theorem dMD_evaluate_202 : decode cMD_evaluate 202 = .ok (.aload_n 0, 1) := by decide +kernel
theorem dMD_evaluate_203 : decode cMD_evaluate 203 = .ok (.getfield 13, 3) := by decide +kernel
theorem dMD_evaluate_206 : decode cMD_evaluate 206 = .ok (.iload 6, 2) := by decide +kernel
theorem dMD_evaluate_208 : decode cMD_evaluate 208 = .ok (.iaload, 1) := by decide +kernel
theorem dMD_evaluate_209 : decode cMD_evaluate 209 = .ok (.aload_n 0, 1) := by decide +kernel
theorem dMD_evaluate_210 : decode cMD_evaluate 210 = .ok (.getfield 16, 3) := by decide +kernel
theorem dMD_evaluate_213 : decode cMD_evaluate 213 = .ok (.iload 6, 2) := by decide +kernel
theorem dMD_evaluate_215 : decode cMD_evaluate 215 = .ok (.iaload, 1) := by decide +kernel
theorem dMD_evaluate_216 : decode cMD_evaluate 216 = .ok (.aload_n 0, 1) := by decide +kernel
theorem dMD_evaluate_217 : decode cMD_evaluate 217 = .ok (.getfield 41, 3) := by decide +kernel
theorem dMD_evaluate_220 : decode cMD_evaluate 220 = .ok (.iload_n 1, 1) := by decide +kernel
theorem dMD_evaluate_221 : decode cMD_evaluate 221 = .ok (.iconst 5, 1) := by decide +kernel
theorem dMD_evaluate_222 : decode cMD_evaluate 222 = .ok (.imul, 1) := by decide +kernel
theorem dMD_evaluate_223 : decode cMD_evaluate 223 = .ok (.iconst 2, 1) := by decide +kernel
theorem dMD_evaluate_224 : decode cMD_evaluate 224 = .ok (.iadd, 1) := by decide +kernel
theorem dMD_evaluate_225 : decode cMD_evaluate 225 = .ok (.iaload, 1) := by decide +kernel
theorem dMD_evaluate_226 : decode cMD_evaluate 226 = .ok (.ifCond .ne 13, 3) := by decide +kernel
theorem dMD_evaluate_229 : decode cMD_evaluate 229 = .ok (.aload_n 0, 1) := by decide +kernel
theorem dMD_evaluate_230 : decode cMD_evaluate 230 = .ok (.getfield 19, 3) := by decide +kernel
theorem dMD_evaluate_233 : decode cMD_evaluate 233 = .ok (.iload 6, 2) := by decide +kernel
theorem dMD_evaluate_235 : decode cMD_evaluate 235 = .ok (.laload, 1) := by decide +kernel
theorem dMD_evaluate_236 : decode cMD_evaluate 236 = .ok (.goto 11, 3) := by decide +kernel
theorem dMD_evaluate_239 : decode cMD_evaluate 239 = .ok (.aload_n 0, 1) := by decide +kernel
theorem dMD_evaluate_240 : decode cMD_evaluate 240 = .ok (.getfield 19, 3) := by decide +kernel
theorem dMD_evaluate_243 : decode cMD_evaluate 243 = .ok (.iload 6, 2) := by decide +kernel
theorem dMD_evaluate_245 : decode cMD_evaluate 245 = .ok (.laload, 1) := by decide +kernel
theorem dMD_evaluate_246 : decode cMD_evaluate 246 = .ok (.lneg, 1) := by decide +kernel
theorem dMD_evaluate_247 : decode cMD_evaluate 247 = .ok (.invokevirtual 82, 3) := by decide +kernel
theorem dMD_evaluate_250 : decode cMD_evaluate 250 = .ok (.iinc 6 1, 3) := by decide +kernel
theorem dMD_evaluate_253 : decode cMD_evaluate 253 = .ok (.goto (-77), 3) := by decide +kernel
theorem dMD_evaluate_256 : decode cMD_evaluate 256 = .ok (.aload_n 0, 1) := by decide +kernel
theorem dMD_evaluate_257 : decode cMD_evaluate 257 = .ok (.iload_n 2, 1) := by decide +kernel
theorem dMD_evaluate_258 : decode cMD_evaluate 258 = .ok (.iconst 3, 1) := by decide +kernel
theorem dMD_evaluate_259 : decode cMD_evaluate 259 = .ok (.iadd, 1) := by decide +kernel
theorem dMD_evaluate_260 : decode cMD_evaluate 260 = .ok (.iload_n 1, 1) := by decide +kernel
theorem dMD_evaluate_261 : decode cMD_evaluate 261 = .ok (.iadd, 1) := by decide +kernel
theorem dMD_evaluate_262 : decode cMD_evaluate 262 = .ok (.bipush 24, 2) := by decide +kernel
theorem dMD_evaluate_264 : decode cMD_evaluate 264 = .ok (.invokevirtual 103, 3) := by decide +kernel
theorem dMD_evaluate_267 : decode cMD_evaluate 267 = .ok (.ireturn, 1) := by decide +kernel
theorem dMD_joinOne_0 : decode cMD_joinOne 0 = .ok (.aload_n 0, 1) := by decide +kernel
theorem dMD_joinOne_1 : decode cMD_joinOne 1 = .ok (.getfield 41, 3) := by decide +kernel
theorem dMD_joinOne_4 : decode cMD_joinOne 4 = .ok (.iload_n 1, 1) := by decide +kernel
theorem dMD_joinOne_5 : decode cMD_joinOne 5 = .ok (.iconst 5, 1) := by decide +kernel
theorem dMD_joinOne_6 : decode cMD_joinOne 6 = .ok (.imul, 1) := by decide +kernel
theorem dMD_joinOne_7 : decode cMD_joinOne 7 = .ok (.iconst 4, 1) := by decide +kernel
theorem dMD_joinOne_8 : decode cMD_joinOne 8 = .ok (.iadd, 1) := by decide +kernel
theorem dMD_joinOne_9 : decode cMD_joinOne 9 = .ok (.iaload, 1) := by decide +kernel
theorem dMD_joinOne_10 : decode cMD_joinOne 10 = .ok (.istore 4, 2) := by decide +kernel
theorem dMD_joinOne_12 : decode cMD_joinOne 12 = .ok (.iload_n 3, 1) := by decide +kernel
theorem dMD_joinOne_13 : decode cMD_joinOne 13 = .ok (.bipush 24, 2) := by decide +kernel
theorem dMD_joinOne_15 : decode cMD_joinOne 15 = .ok (.imul, 1) := by decide +kernel
theorem dMD_joinOne_16 : decode cMD_joinOne 16 = .ok (.istore 5, 2) := by decide +kernel
theorem dMD_joinOne_18 : decode cMD_joinOne 18 = .ok (.iload 5, 2) := by decide +kernel
theorem dMD_joinOne_20 : decode cMD_joinOne 20 = .ok (.iload_n 3, 1) := by decide +kernel
theorem dMD_joinOne_21 : decode cMD_joinOne 21 = .ok (.bipush 24, 2) := by decide +kernel
theorem dMD_joinOne_23 : decode cMD_joinOne 23 = .ok (.imul, 1) := by decide +kernel
theorem dMD_joinOne_24 : decode cMD_joinOne 24 = .ok (.aload_n 0, 1) := by decide +kernel
theorem dMD_joinOne_25 : decode cMD_joinOne 25 = .ok (.getfield 23, 3) := by decide +kernel
theorem dMD_joinOne_28 : decode cMD_joinOne 28 = .ok (.iload_n 3, 1) := by decide +kernel
theorem dMD_joinOne_29 : decode cMD_joinOne 29 = .ok (.iaload, 1) := by decide +kernel
theorem dMD_joinOne_30 : decode cMD_joinOne 30 = .ok (.iadd, 1) := by decide +kernel
theorem dMD_joinOne_31 : decode cMD_joinOne 31 = .ok (.if_icmp .ge 112, 3) := by decide +kernel
theorem dMD_joinOne_34 : decode cMD_joinOne 34 = .ok (.aload_n 0, 1) := by decide +kernel
theorem dMD_joinOne_35 : decode cMD_joinOne 35 = .ok (.iload_n 2, 1) := by decide +kernel
theorem dMD_joinOne_36 : decode cMD_joinOne 36 = .ok (.aload_n 0, 1) := by decide +kernel
theorem dMD_joinOne_37 : decode cMD_joinOne 37 = .ok (.getfield 41, 3) := by decide +kernel
theorem dMD_joinOne_40 : decode cMD_joinOne 40 = .ok (.iload_n 1, 1) := by decide +kernel
theorem dMD_joinOne_41 : decode cMD_joinOne 41 = .ok (.iconst 5, 1) := by decide +kernel
theorem dMD_joinOne_42 : decode cMD_joinOne 42 = .ok (.imul, 1) := by decide +kernel
theorem dMD_joinOne_43 : decode cMD_joinOne 43 = .ok (.iconst 2, 1) := by decide +kernel
theorem dMD_joinOne_44 : decode cMD_joinOne 44 = .ok (.iadd, 1) := by decide +kernel
theorem dMD_joinOne_45 : decode cMD_joinOne 45 = .ok (.iaload, 1) := by decide +kernel
theorem dMD_joinOne_46 : decode cMD_joinOne 46 = .ok (.invokevirtual 74, 3) := by decide +kernel
theorem dMD_joinOne_49 : decode cMD_joinOne 49 = .ok (.aload_n 0, 1) := by decide +kernel
theorem dMD_joinOne_50 : decode cMD_joinOne 50 = .ok (.iload 5, 2) := by decide +kernel
theorem dMD_joinOne_52 : decode cMD_joinOne 52 = .ok (.aload_n 0, 1) := by decide +kernel
theorem dMD_joinOne_53 : decode cMD_joinOne 53 = .ok (.getfield 41, 3) := by decide +kernel
theorem dMD_joinOne_56 : decode cMD_joinOne 56 = .ok (.iload_n 1, 1) := by decide +kernel
theorem dMD_joinOne_57 : decode cMD_joinOne 57 = .ok (.iconst 5, 1) := by decide +kernel
theorem dMD_joinOne_58 : decode cMD_joinOne 58 = .ok (.imul, 1) := by decide +kernel
theorem dMD_joinOne_59 : decode cMD_joinOne 59 = .ok (.iconst 3, 1) := by decide +kernel
theorem dMD_joinOne_60 : decode cMD_joinOne 60 = .ok (.iadd, 1) := by decide +kernel
theorem dMD_joinOne_61 : decode cMD_joinOne 61 = .ok (.iaload, 1) := by decide +kernel
theorem dMD_joinOne_62 : decode cMD_joinOne 62 = .ok (.invokevirtual 74, 3) := by decide +kernel
theorem dMD_joinOne_65 : decode cMD_joinOne 65 = .ok (.if_icmp .ne 72, 3) := by decide +kernel
theorem dMD_joinOne_68 : decode cMD_joinOne 68 = .ok (.aload_n 0, 1) := by decide +kernel
theorem dMD_joinOne_69 : decode cMD_joinOne 69 = .ok (.iload_n 2, 1) := by decide +kernel
theorem dMD_joinOne_70 : decode cMD_joinOne 70 = .ok (.iload 5, 2) := by decide +kernel
theorem dMD_joinOne_72 : decode cMD_joinOne 72 = .ok (.iload 4, 2) := by decide +kernel
theorem dMD_joinOne_74 : decode cMD_joinOne 74 = .ok (.bipush 36, 2) := by decide +kernel
theorem dMD_joinOne_76 : decode cMD_joinOne 76 = .ok (.idiv, 1) := by decide +kernel
theorem dMD_joinOne_77 : decode cMD_joinOne 77 = .ok (.invokevirtual 78, 3) := by decide +kernel
theorem dMD_joinOne_80 : decode cMD_joinOne 80 = .ok (.istore 6, 2) := by decide +kernel
theorem dMD_joinOne_82 : decode cMD_joinOne 82 = .ok (.aload_n 0, 1) := by decide +kernel
theorem dMD_joinOne_83 : decode cMD_joinOne 83 = .ok (.iload_n 2, 1) := by decide +kernel
theorem dMD_joinOne_84 : decode cMD_joinOne 84 = .ok (.iload 5, 2) := by decide +kernel
theorem dMD_joinOne_86 : decode cMD_joinOne 86 = .ok (.iload 4, 2) := by decide +kernel
theorem dMD_joinOne_88 : decode cMD_joinOne 88 = .ok (.bipush 6, 2) := by decide +kernel
theorem dMD_joinOne_90 : decode cMD_joinOne 90 = .ok (.idiv, 1) := by decide +kernel
theorem dMD_joinOne_91 : decode cMD_joinOne 91 = .ok (.bipush 6, 2) := by decide +kernel
theorem dMD_joinOne_93 : decode cMD_joinOne 93 = .ok (.irem, 1) := by decide +kernel
theorem dMD_joinOne_94 : decode cMD_joinOne 94 = .ok (.invokevirtual 78, 3) := by decide +kernel
theorem dMD_joinOne_97 : decode cMD_joinOne 97 = .ok (.istore 7, 2) := by decide +kernel
theorem dMD_joinOne_99 : decode cMD_joinOne 99 = .ok (.aload_n 0, 1) := by decide +kernel
theorem dMD_joinOne_100 : decode cMD_joinOne 100 = .ok (.iload_n 2, 1) := by decide +kernel
theorem dMD_joinOne_101 : decode cMD_joinOne 101 = .ok (.iload 5, 2) := by decide +kernel
theorem dMD_joinOne_103 : decode cMD_joinOne 103 = .ok (.iload 4, 2) := by decide +kernel
theorem dMD_joinOne_105 : decode cMD_joinOne 105 = .ok (.bipush 6, 2) := by decide +kernel
theorem dMD_joinOne_107 : decode cMD_joinOne 107 = .ok (.irem, 1) := by decide +kernel
theorem dMD_joinOne_108 : decode cMD_joinOne 108 = .ok (.invokevirtual 78, 3) := by decide +kernel
theorem dMD_joinOne_111 : decode cMD_joinOne 111 = .ok (.istore 8, 2) := by decide +kernel
theorem dMD_joinOne_113 : decode cMD_joinOne 113 = .ok (.aload_n 0, 1) := by decide +kernel
theorem dMD_joinOne_114 : decode cMD_joinOne 114 = .ok (.iload 6, 2) := by decide +kernel
theorem dMD_joinOne_116 : decode cMD_joinOne 116 = .ok (.iload 7, 2) := by decide +kernel
theorem dMD_joinOne_118 : decode cMD_joinOne 118 = .ok (.iload 8, 2) := by decide +kernel
theorem dMD_joinOne_120 : decode cMD_joinOne 120 = .ok (.aload_n 0, 1) := by decide +kernel
theorem dMD_joinOne_121 : decode cMD_joinOne 121 = .ok (.getfield 19, 3) := by decide +kernel
theorem dMD_joinOne_124 : decode cMD_joinOne 124 = .ok (.iload_n 2, 1) := by decide +kernel
theorem dMD_joinOne_125 : decode cMD_joinOne 125 = .ok (.laload, 1) := by decide +kernel
theorem dMD_joinOne_126 : decode cMD_joinOne 126 = .ok (.aload_n 0, 1) := by decide +kernel
theorem dMD_joinOne_127 : decode cMD_joinOne 127 = .ok (.getfield 19, 3) := by decide +kernel
theorem dMD_joinOne_130 : decode cMD_joinOne 130 = .ok (.iload 5, 2) := by decide +kernel
theorem dMD_joinOne_132 : decode cMD_joinOne 132 = .ok (.laload, 1) := by decide +kernel
theorem dMD_joinOne_133 : decode cMD_joinOne 133 = .ok (.lmul, 1) := by decide +kernel
theorem dMD_joinOne_134 : decode cMD_joinOne 134 = .ok (.invokevirtual 82, 3) := by decide +kernel
theorem dMD_joinOne_137 : decode cMD_joinOne 137 = .ok (.iinc 5 1, 3) := by decide +kernel
theorem dMD_joinOne_140 : decode cMD_joinOne 140 = .ok (.goto (-122), 3) := by decide +kernel
theorem dMD_joinOne_143 : decode cMD_joinOne 143 = .ok (.return_, 1) := by decide +kernel
theorem dMD_column_0 : decode cMD_column 0 = .ok (.iload_n 2, 1) := by decide +kernel
theorem dMD_column_1 : decode cMD_column 1 = .ok (.ifCond .ne 12, 3) := by decide +kernel
theorem dMD_column_4 : decode cMD_column 4 = .ok (.aload_n 0, 1) := by decide +kernel
theorem dMD_column_5 : decode cMD_column 5 = .ok (.getfield 7, 3) := by decide +kernel
theorem dMD_column_8 : decode cMD_column 8 = .ok (.iload_n 1, 1) := by decide +kernel
theorem dMD_column_9 : decode cMD_column 9 = .ok (.iaload, 1) := by decide +kernel
theorem dMD_column_10 : decode cMD_column 10 = .ok (.goto 23, 3) := by decide +kernel
theorem dMD_column_13 : decode cMD_column 13 = .ok (.iload_n 2, 1) := by decide +kernel
theorem dMD_column_14 : decode cMD_column 14 = .ok (.iconst 1, 1) := by decide +kernel
theorem dMD_column_15 : decode cMD_column 15 = .ok (.if_icmp .ne 12, 3) := by decide +kernel
theorem dMD_column_18 : decode cMD_column 18 = .ok (.aload_n 0, 1) := by decide +kernel
theorem dMD_column_19 : decode cMD_column 19 = .ok (.getfield 13, 3) := by decide +kernel
theorem dMD_column_22 : decode cMD_column 22 = .ok (.iload_n 1, 1) := by decide +kernel
theorem dMD_column_23 : decode cMD_column 23 = .ok (.iaload, 1) := by decide +kernel
theorem dMD_column_24 : decode cMD_column 24 = .ok (.goto 9, 3) := by decide +kernel
theorem dMD_column_27 : decode cMD_column 27 = .ok (.aload_n 0, 1) := by decide +kernel
theorem dMD_column_28 : decode cMD_column 28 = .ok (.getfield 16, 3) := by decide +kernel
theorem dMD_column_31 : decode cMD_column 31 = .ok (.iload_n 1, 1) := by decide +kernel
theorem dMD_column_32 : decode cMD_column 32 = .ok (.iaload, 1) := by decide +kernel
theorem dMD_column_33 : decode cMD_column 33 = .ok (.ireturn, 1) := by decide +kernel
theorem dMD_picked_0 : decode cMD_picked 0 = .ok (.iload_n 3, 1) := by decide +kernel
theorem dMD_picked_1 : decode cMD_picked 1 = .ok (.iconst 3, 1) := by decide +kernel
theorem dMD_picked_2 : decode cMD_picked 2 = .ok (.if_icmp .ge 12, 3) := by decide +kernel
theorem dMD_picked_5 : decode cMD_picked 5 = .ok (.aload_n 0, 1) := by decide +kernel
theorem dMD_picked_6 : decode cMD_picked 6 = .ok (.iload_n 1, 1) := by decide +kernel
theorem dMD_picked_7 : decode cMD_picked 7 = .ok (.iload_n 3, 1) := by decide +kernel
theorem dMD_picked_8 : decode cMD_picked 8 = .ok (.invokevirtual 74, 3) := by decide +kernel
theorem dMD_picked_11 : decode cMD_picked 11 = .ok (.goto 11, 3) := by decide +kernel
theorem dMD_picked_14 : decode cMD_picked 14 = .ok (.aload_n 0, 1) := by decide +kernel
theorem dMD_picked_15 : decode cMD_picked 15 = .ok (.iload_n 2, 1) := by decide +kernel
theorem dMD_picked_16 : decode cMD_picked 16 = .ok (.iload_n 3, 1) := by decide +kernel
theorem dMD_picked_17 : decode cMD_picked 17 = .ok (.iconst 3, 1) := by decide +kernel
theorem dMD_picked_18 : decode cMD_picked 18 = .ok (.isub, 1) := by decide +kernel
theorem dMD_picked_19 : decode cMD_picked 19 = .ok (.invokevirtual 74, 3) := by decide +kernel
theorem dMD_picked_22 : decode cMD_picked 22 = .ok (.ireturn, 1) := by decide +kernel
theorem dMD_emit_0 : decode cMD_emit 0 = .ok (.iconst 0, 1) := by decide +kernel
theorem dMD_emit_1 : decode cMD_emit 1 = .ok (.istore 6, 2) := by decide +kernel
theorem dMD_emit_3 : decode cMD_emit 3 = .ok (.iload 6, 2) := by decide +kernel
theorem dMD_emit_5 : decode cMD_emit 5 = .ok (.aload_n 0, 1) := by decide +kernel
theorem dMD_emit_6 : decode cMD_emit 6 = .ok (.getfield 62, 3) := by decide +kernel
theorem dMD_emit_9 : decode cMD_emit 9 = .ok (.if_icmp .ge 55, 3) := by decide +kernel
theorem dMD_emit_12 : decode cMD_emit 12 = .ok (.aload_n 0, 1) := by decide +kernel
theorem dMD_emit_13 : decode cMD_emit 13 = .ok (.getfield 26, 3) := by decide +kernel
theorem dMD_emit_16 : decode cMD_emit 16 = .ok (.iload 6, 2) := by decide +kernel
theorem dMD_emit_18 : decode cMD_emit 18 = .ok (.iaload, 1) := by decide +kernel
theorem dMD_emit_19 : decode cMD_emit 19 = .ok (.iload_n 1, 1) := by decide +kernel
theorem dMD_emit_20 : decode cMD_emit 20 = .ok (.if_icmp .ne 38, 3) := by decide +kernel
theorem dMD_emit_23 : decode cMD_emit 23 = .ok (.aload_n 0, 1) := by decide +kernel
theorem dMD_emit_24 : decode cMD_emit 24 = .ok (.getfield 29, 3) := by decide +kernel
theorem dMD_emit_27 : decode cMD_emit 27 = .ok (.iload 6, 2) := by decide +kernel
theorem dMD_emit_29 : decode cMD_emit 29 = .ok (.iaload, 1) := by decide +kernel
theorem dMD_emit_30 : decode cMD_emit 30 = .ok (.iload_n 2, 1) := by decide +kernel
theorem dMD_emit_31 : decode cMD_emit 31 = .ok (.if_icmp .ne 27, 3) := by decide +kernel
theorem dMD_emit_34 : decode cMD_emit 34 = .ok (.aload_n 0, 1) := by decide +kernel
theorem dMD_emit_35 : decode cMD_emit 35 = .ok (.getfield 32, 3) := by decide +kernel
theorem dMD_emit_38 : decode cMD_emit 38 = .ok (.iload 6, 2) := by decide +kernel
theorem dMD_emit_40 : decode cMD_emit 40 = .ok (.iaload, 1) := by decide +kernel
theorem dMD_emit_41 : decode cMD_emit 41 = .ok (.iload_n 3, 1) := by decide +kernel
theorem dMD_emit_42 : decode cMD_emit 42 = .ok (.if_icmp .ne 16, 3) := by decide +kernel
theorem dMD_emit_45 : decode cMD_emit 45 = .ok (.aload_n 0, 1) := by decide +kernel
theorem dMD_emit_46 : decode cMD_emit 46 = .ok (.getfield 35, 3) := by decide +kernel
theorem dMD_emit_49 : decode cMD_emit 49 = .ok (.iload 6, 2) := by decide +kernel
theorem dMD_emit_51 : decode cMD_emit 51 = .ok (.dup2, 1) := by decide +kernel
theorem dMD_emit_52 : decode cMD_emit 52 = .ok (.laload, 1) := by decide +kernel
theorem dMD_emit_53 : decode cMD_emit 53 = .ok (.lload 4, 2) := by decide +kernel
theorem dMD_emit_55 : decode cMD_emit 55 = .ok (.ladd, 1) := by decide +kernel
theorem dMD_emit_56 : decode cMD_emit 56 = .ok (.lastore, 1) := by decide +kernel
theorem dMD_emit_57 : decode cMD_emit 57 = .ok (.return_, 1) := by decide +kernel
theorem dMD_emit_58 : decode cMD_emit 58 = .ok (.iinc 6 1, 3) := by decide +kernel
theorem dMD_emit_61 : decode cMD_emit 61 = .ok (.goto (-58), 3) := by decide +kernel
theorem dMD_emit_64 : decode cMD_emit 64 = .ok (.aload_n 0, 1) := by decide +kernel
theorem dMD_emit_65 : decode cMD_emit 65 = .ok (.getfield 26, 3) := by decide +kernel
theorem dMD_emit_68 : decode cMD_emit 68 = .ok (.aload_n 0, 1) := by decide +kernel
theorem dMD_emit_69 : decode cMD_emit 69 = .ok (.getfield 62, 3) := by decide +kernel
theorem dMD_emit_72 : decode cMD_emit 72 = .ok (.iload_n 1, 1) := by decide +kernel
theorem dMD_emit_73 : decode cMD_emit 73 = .ok (.iastore, 1) := by decide +kernel
theorem dMD_emit_74 : decode cMD_emit 74 = .ok (.aload_n 0, 1) := by decide +kernel
theorem dMD_emit_75 : decode cMD_emit 75 = .ok (.getfield 29, 3) := by decide +kernel
theorem dMD_emit_78 : decode cMD_emit 78 = .ok (.aload_n 0, 1) := by decide +kernel
theorem dMD_emit_79 : decode cMD_emit 79 = .ok (.getfield 62, 3) := by decide +kernel
theorem dMD_emit_82 : decode cMD_emit 82 = .ok (.iload_n 2, 1) := by decide +kernel
theorem dMD_emit_83 : decode cMD_emit 83 = .ok (.iastore, 1) := by decide +kernel
theorem dMD_emit_84 : decode cMD_emit 84 = .ok (.aload_n 0, 1) := by decide +kernel
theorem dMD_emit_85 : decode cMD_emit 85 = .ok (.getfield 32, 3) := by decide +kernel
theorem dMD_emit_88 : decode cMD_emit 88 = .ok (.aload_n 0, 1) := by decide +kernel
theorem dMD_emit_89 : decode cMD_emit 89 = .ok (.getfield 62, 3) := by decide +kernel
theorem dMD_emit_92 : decode cMD_emit 92 = .ok (.iload_n 3, 1) := by decide +kernel
theorem dMD_emit_93 : decode cMD_emit 93 = .ok (.iastore, 1) := by decide +kernel
theorem dMD_emit_94 : decode cMD_emit 94 = .ok (.aload_n 0, 1) := by decide +kernel
theorem dMD_emit_95 : decode cMD_emit 95 = .ok (.getfield 35, 3) := by decide +kernel
theorem dMD_emit_98 : decode cMD_emit 98 = .ok (.aload_n 0, 1) := by decide +kernel
theorem dMD_emit_99 : decode cMD_emit 99 = .ok (.getfield 62, 3) := by decide +kernel
theorem dMD_emit_102 : decode cMD_emit 102 = .ok (.lload 4, 2) := by decide +kernel
theorem dMD_emit_104 : decode cMD_emit 104 = .ok (.lastore, 1) := by decide +kernel
theorem dMD_emit_105 : decode cMD_emit 105 = .ok (.aload_n 0, 1) := by decide +kernel
theorem dMD_emit_106 : decode cMD_emit 106 = .ok (.dup, 1) := by decide +kernel
theorem dMD_emit_107 : decode cMD_emit 107 = .ok (.getfield 62, 3) := by decide +kernel
theorem dMD_emit_110 : decode cMD_emit 110 = .ok (.iconst 1, 1) := by decide +kernel
theorem dMD_emit_111 : decode cMD_emit 111 = .ok (.iadd, 1) := by decide +kernel
theorem dMD_emit_112 : decode cMD_emit 112 = .ok (.putfield 62, 3) := by decide +kernel
theorem dMD_emit_115 : decode cMD_emit 115 = .ok (.return_, 1) := by decide +kernel
theorem dMD_unary_0 : decode cMD_unary 0 = .ok (.aload_n 0, 1) := by decide +kernel
theorem dMD_unary_1 : decode cMD_unary 1 = .ok (.getfield 41, 3) := by decide +kernel
theorem dMD_unary_4 : decode cMD_unary 4 = .ok (.iload_n 1, 1) := by decide +kernel
theorem dMD_unary_5 : decode cMD_unary 5 = .ok (.iconst 5, 1) := by decide +kernel
theorem dMD_unary_6 : decode cMD_unary 6 = .ok (.imul, 1) := by decide +kernel
theorem dMD_unary_7 : decode cMD_unary 7 = .ok (.iconst 1, 1) := by decide +kernel
theorem dMD_unary_8 : decode cMD_unary 8 = .ok (.iadd, 1) := by decide +kernel
theorem dMD_unary_9 : decode cMD_unary 9 = .ok (.iaload, 1) := by decide +kernel
theorem dMD_unary_10 : decode cMD_unary 10 = .ok (.istore 4, 2) := by decide +kernel
theorem dMD_unary_12 : decode cMD_unary 12 = .ok (.aload_n 0, 1) := by decide +kernel
theorem dMD_unary_13 : decode cMD_unary 13 = .ok (.getfield 41, 3) := by decide +kernel
theorem dMD_unary_16 : decode cMD_unary 16 = .ok (.iload_n 1, 1) := by decide +kernel
theorem dMD_unary_17 : decode cMD_unary 17 = .ok (.iconst 5, 1) := by decide +kernel
theorem dMD_unary_18 : decode cMD_unary 18 = .ok (.imul, 1) := by decide +kernel
theorem dMD_unary_19 : decode cMD_unary 19 = .ok (.iconst 2, 1) := by decide +kernel
theorem dMD_unary_20 : decode cMD_unary 20 = .ok (.iadd, 1) := by decide +kernel
theorem dMD_unary_21 : decode cMD_unary 21 = .ok (.iaload, 1) := by decide +kernel
theorem dMD_unary_22 : decode cMD_unary 22 = .ok (.istore 5, 2) := by decide +kernel
theorem dMD_unary_24 : decode cMD_unary 24 = .ok (.aload_n 0, 1) := by decide +kernel
theorem dMD_unary_25 : decode cMD_unary 25 = .ok (.getfield 41, 3) := by decide +kernel
theorem dMD_unary_28 : decode cMD_unary 28 = .ok (.iload_n 1, 1) := by decide +kernel
theorem dMD_unary_29 : decode cMD_unary 29 = .ok (.iconst 5, 1) := by decide +kernel
theorem dMD_unary_30 : decode cMD_unary 30 = .ok (.imul, 1) := by decide +kernel
theorem dMD_unary_31 : decode cMD_unary 31 = .ok (.iconst 3, 1) := by decide +kernel
theorem dMD_unary_32 : decode cMD_unary 32 = .ok (.iadd, 1) := by decide +kernel
theorem dMD_unary_33 : decode cMD_unary 33 = .ok (.iaload, 1) := by decide +kernel
theorem dMD_unary_34 : decode cMD_unary 34 = .ok (.istore 6, 2) := by decide +kernel
theorem dMD_unary_36 : decode cMD_unary 36 = .ok (.aload_n 0, 1) := by decide +kernel
theorem dMD_unary_37 : decode cMD_unary 37 = .ok (.getfield 38, 3) := by decide +kernel
theorem dMD_unary_40 : decode cMD_unary 40 = .ok (.iload_n 1, 1) := by decide +kernel
theorem dMD_unary_41 : decode cMD_unary 41 = .ok (.iaload, 1) := by decide +kernel
theorem dMD_unary_42 : decode cMD_unary 42 = .ok (.ifCond .ne 31, 3) := by decide +kernel
theorem dMD_unary_45 : decode cMD_unary 45 = .ok (.aload_n 0, 1) := by decide +kernel
theorem dMD_unary_46 : decode cMD_unary 46 = .ok (.aload_n 0, 1) := by decide +kernel
theorem dMD_unary_47 : decode cMD_unary 47 = .ok (.getfield 7, 3) := by decide +kernel
theorem dMD_unary_50 : decode cMD_unary 50 = .ok (.iload_n 2, 1) := by decide +kernel
theorem dMD_unary_51 : decode cMD_unary 51 = .ok (.iaload, 1) := by decide +kernel
theorem dMD_unary_52 : decode cMD_unary 52 = .ok (.aload_n 0, 1) := by decide +kernel
theorem dMD_unary_53 : decode cMD_unary 53 = .ok (.getfield 13, 3) := by decide +kernel
theorem dMD_unary_56 : decode cMD_unary 56 = .ok (.iload_n 2, 1) := by decide +kernel
theorem dMD_unary_57 : decode cMD_unary 57 = .ok (.iaload, 1) := by decide +kernel
theorem dMD_unary_58 : decode cMD_unary 58 = .ok (.aload_n 0, 1) := by decide +kernel
theorem dMD_unary_59 : decode cMD_unary 59 = .ok (.getfield 16, 3) := by decide +kernel
theorem dMD_unary_62 : decode cMD_unary 62 = .ok (.iload_n 2, 1) := by decide +kernel
theorem dMD_unary_63 : decode cMD_unary 63 = .ok (.iaload, 1) := by decide +kernel
theorem dMD_unary_64 : decode cMD_unary 64 = .ok (.aload_n 0, 1) := by decide +kernel
theorem dMD_unary_65 : decode cMD_unary 65 = .ok (.getfield 19, 3) := by decide +kernel
theorem dMD_unary_68 : decode cMD_unary 68 = .ok (.iload_n 2, 1) := by decide +kernel
theorem dMD_unary_69 : decode cMD_unary 69 = .ok (.laload, 1) := by decide +kernel
theorem dMD_unary_70 : decode cMD_unary 70 = .ok (.invokevirtual 82, 3) := by decide +kernel
theorem dMD_unary_73 : decode cMD_unary 73 = .ok (.aload_n 0, 1) := by decide +kernel
theorem dMD_unary_74 : decode cMD_unary 74 = .ok (.getfield 38, 3) := by decide +kernel
theorem dMD_unary_77 : decode cMD_unary 77 = .ok (.iload_n 1, 1) := by decide +kernel
theorem dMD_unary_78 : decode cMD_unary 78 = .ok (.iaload, 1) := by decide +kernel
theorem dMD_unary_79 : decode cMD_unary 79 = .ok (.iconst 1, 1) := by decide +kernel
theorem dMD_unary_80 : decode cMD_unary 80 = .ok (.if_icmp .ne 49, 3) := by decide +kernel
theorem dMD_unary_83 : decode cMD_unary 83 = .ok (.aload_n 0, 1) := by decide +kernel
theorem dMD_unary_84 : decode cMD_unary 84 = .ok (.aload_n 0, 1) := by decide +kernel
theorem dMD_unary_85 : decode cMD_unary 85 = .ok (.iload_n 2, 1) := by decide +kernel
theorem dMD_unary_86 : decode cMD_unary 86 = .ok (.iload 4, 2) := by decide +kernel
theorem dMD_unary_88 : decode cMD_unary 88 = .ok (.invokevirtual 74, 3) := by decide +kernel
theorem dMD_unary_91 : decode cMD_unary 91 = .ok (.iload 5, 2) := by decide +kernel
theorem dMD_unary_93 : decode cMD_unary 93 = .ok (.iload 6, 2) := by decide +kernel
theorem dMD_unary_95 : decode cMD_unary 95 = .ok (.invokevirtual 86, 3) := by decide +kernel
theorem dMD_unary_98 : decode cMD_unary 98 = .ok (.ifCond .eq 31, 3) := by decide +kernel
theorem dMD_unary_101 : decode cMD_unary 101 = .ok (.aload_n 0, 1) := by decide +kernel
theorem dMD_unary_102 : decode cMD_unary 102 = .ok (.aload_n 0, 1) := by decide +kernel
theorem dMD_unary_103 : decode cMD_unary 103 = .ok (.getfield 7, 3) := by decide +kernel
theorem dMD_unary_106 : decode cMD_unary 106 = .ok (.iload_n 2, 1) := by decide +kernel
theorem dMD_unary_107 : decode cMD_unary 107 = .ok (.iaload, 1) := by decide +kernel
theorem dMD_unary_108 : decode cMD_unary 108 = .ok (.aload_n 0, 1) := by decide +kernel
theorem dMD_unary_109 : decode cMD_unary 109 = .ok (.getfield 13, 3) := by decide +kernel
theorem dMD_unary_112 : decode cMD_unary 112 = .ok (.iload_n 2, 1) := by decide +kernel
theorem dMD_unary_113 : decode cMD_unary 113 = .ok (.iaload, 1) := by decide +kernel
theorem dMD_unary_114 : decode cMD_unary 114 = .ok (.aload_n 0, 1) := by decide +kernel
theorem dMD_unary_115 : decode cMD_unary 115 = .ok (.getfield 16, 3) := by decide +kernel
theorem dMD_unary_118 : decode cMD_unary 118 = .ok (.iload_n 2, 1) := by decide +kernel
theorem dMD_unary_119 : decode cMD_unary 119 = .ok (.iaload, 1) := by decide +kernel
theorem dMD_unary_120 : decode cMD_unary 120 = .ok (.aload_n 0, 1) := by decide +kernel
theorem dMD_unary_121 : decode cMD_unary 121 = .ok (.getfield 19, 3) := by decide +kernel
theorem dMD_unary_124 : decode cMD_unary 124 = .ok (.iload_n 2, 1) := by decide +kernel
theorem dMD_unary_125 : decode cMD_unary 125 = .ok (.laload, 1) := by decide +kernel
theorem dMD_unary_126 : decode cMD_unary 126 = .ok (.invokevirtual 82, 3) := by decide +kernel
theorem dMD_unary_129 : decode cMD_unary 129 = .ok (.aload_n 0, 1) := by decide +kernel
theorem dMD_unary_130 : decode cMD_unary 130 = .ok (.getfield 38, 3) := by decide +kernel
theorem dMD_unary_133 : decode cMD_unary 133 = .ok (.iload_n 1, 1) := by decide +kernel
theorem dMD_unary_134 : decode cMD_unary 134 = .ok (.iaload, 1) := by decide +kernel
theorem dMD_unary_135 : decode cMD_unary 135 = .ok (.iconst 2, 1) := by decide +kernel
theorem dMD_unary_136 : decode cMD_unary 136 = .ok (.if_icmp .ne 46, 3) := by decide +kernel
theorem dMD_unary_139 : decode cMD_unary 139 = .ok (.aload_n 0, 1) := by decide +kernel
theorem dMD_unary_140 : decode cMD_unary 140 = .ok (.iload_n 2, 1) := by decide +kernel
theorem dMD_unary_141 : decode cMD_unary 141 = .ok (.iload 4, 2) := by decide +kernel
theorem dMD_unary_143 : decode cMD_unary 143 = .ok (.invokevirtual 90, 3) := by decide +kernel
theorem dMD_unary_146 : decode cMD_unary 146 = .ok (.istore 7, 2) := by decide +kernel
theorem dMD_unary_148 : decode cMD_unary 148 = .ok (.aload_n 0, 1) := by decide +kernel
theorem dMD_unary_149 : decode cMD_unary 149 = .ok (.iload_n 2, 1) := by decide +kernel
theorem dMD_unary_150 : decode cMD_unary 150 = .ok (.iload 5, 2) := by decide +kernel
theorem dMD_unary_152 : decode cMD_unary 152 = .ok (.invokevirtual 90, 3) := by decide +kernel
theorem dMD_unary_155 : decode cMD_unary 155 = .ok (.istore 8, 2) := by decide +kernel
theorem dMD_unary_157 : decode cMD_unary 157 = .ok (.aload_n 0, 1) := by decide +kernel
theorem dMD_unary_158 : decode cMD_unary 158 = .ok (.iload_n 2, 1) := by decide +kernel
theorem dMD_unary_159 : decode cMD_unary 159 = .ok (.iload 6, 2) := by decide +kernel
theorem dMD_unary_161 : decode cMD_unary 161 = .ok (.invokevirtual 90, 3) := by decide +kernel
theorem dMD_unary_164 : decode cMD_unary 164 = .ok (.istore 9, 2) := by decide +kernel
theorem dMD_unary_166 : decode cMD_unary 166 = .ok (.aload_n 0, 1) := by decide +kernel
theorem dMD_unary_167 : decode cMD_unary 167 = .ok (.iload 7, 2) := by decide +kernel
theorem dMD_unary_169 : decode cMD_unary 169 = .ok (.iload 8, 2) := by decide +kernel
theorem dMD_unary_171 : decode cMD_unary 171 = .ok (.iload 9, 2) := by decide +kernel
theorem dMD_unary_173 : decode cMD_unary 173 = .ok (.aload_n 0, 1) := by decide +kernel
theorem dMD_unary_174 : decode cMD_unary 174 = .ok (.getfield 19, 3) := by decide +kernel
theorem dMD_unary_177 : decode cMD_unary 177 = .ok (.iload_n 2, 1) := by decide +kernel
theorem dMD_unary_178 : decode cMD_unary 178 = .ok (.laload, 1) := by decide +kernel
theorem dMD_unary_179 : decode cMD_unary 179 = .ok (.invokevirtual 82, 3) := by decide +kernel
theorem dMD_unary_182 : decode cMD_unary 182 = .ok (.aload_n 0, 1) := by decide +kernel
theorem dMD_unary_183 : decode cMD_unary 183 = .ok (.getfield 38, 3) := by decide +kernel
theorem dMD_unary_186 : decode cMD_unary 186 = .ok (.iload_n 1, 1) := by decide +kernel
theorem dMD_unary_187 : decode cMD_unary 187 = .ok (.iaload, 1) := by decide +kernel
theorem dMD_unary_188 : decode cMD_unary 188 = .ok (.iconst 5, 1) := by decide +kernel
theorem dMD_unary_189 : decode cMD_unary 189 = .ok (.if_icmp .ne 37, 3) := by decide +kernel
theorem dMD_unary_192 : decode cMD_unary 192 = .ok (.aload_n 0, 1) := by decide +kernel
theorem dMD_unary_193 : decode cMD_unary 193 = .ok (.getfield 19, 3) := by decide +kernel
theorem dMD_unary_196 : decode cMD_unary 196 = .ok (.iload_n 2, 1) := by decide +kernel
theorem dMD_unary_197 : decode cMD_unary 197 = .ok (.laload, 1) := by decide +kernel
theorem dMD_unary_198 : decode cMD_unary 198 = .ok (.lconst 0, 1) := by decide +kernel
theorem dMD_unary_199 : decode cMD_unary 199 = .ok (.lcmp, 1) := by decide +kernel
theorem dMD_unary_200 : decode cMD_unary 200 = .ok (.ifCond .le 26, 3) := by decide +kernel
theorem dMD_unary_203 : decode cMD_unary 203 = .ok (.aload_n 0, 1) := by decide +kernel
theorem dMD_unary_204 : decode cMD_unary 204 = .ok (.aload_n 0, 1) := by decide +kernel
theorem dMD_unary_205 : decode cMD_unary 205 = .ok (.getfield 7, 3) := by decide +kernel
theorem dMD_unary_208 : decode cMD_unary 208 = .ok (.iload_n 2, 1) := by decide +kernel
theorem dMD_unary_209 : decode cMD_unary 209 = .ok (.iaload, 1) := by decide +kernel
theorem dMD_unary_210 : decode cMD_unary 210 = .ok (.aload_n 0, 1) := by decide +kernel
theorem dMD_unary_211 : decode cMD_unary 211 = .ok (.getfield 13, 3) := by decide +kernel
theorem dMD_unary_214 : decode cMD_unary 214 = .ok (.iload_n 2, 1) := by decide +kernel
theorem dMD_unary_215 : decode cMD_unary 215 = .ok (.iaload, 1) := by decide +kernel
theorem dMD_unary_216 : decode cMD_unary 216 = .ok (.aload_n 0, 1) := by decide +kernel
theorem dMD_unary_217 : decode cMD_unary 217 = .ok (.getfield 16, 3) := by decide +kernel
theorem dMD_unary_220 : decode cMD_unary 220 = .ok (.iload_n 2, 1) := by decide +kernel
theorem dMD_unary_221 : decode cMD_unary 221 = .ok (.iaload, 1) := by decide +kernel
theorem dMD_unary_222 : decode cMD_unary 222 = .ok (.lconst 1, 1) := by decide +kernel
theorem dMD_unary_223 : decode cMD_unary 223 = .ok (.invokevirtual 82, 3) := by decide +kernel
theorem dMD_unary_226 : decode cMD_unary 226 = .ok (.aload_n 0, 1) := by decide +kernel
theorem dMD_unary_227 : decode cMD_unary 227 = .ok (.getfield 38, 3) := by decide +kernel
theorem dMD_unary_230 : decode cMD_unary 230 = .ok (.iload_n 1, 1) := by decide +kernel
theorem dMD_unary_231 : decode cMD_unary 231 = .ok (.iaload, 1) := by decide +kernel
theorem dMD_unary_232 : decode cMD_unary 232 = .ok (.bipush 6, 2) := by decide +kernel
theorem dMD_unary_234 : decode cMD_unary 234 = .ok (.if_icmp .ne 74, 3) := by decide +kernel
theorem dMD_unary_237 : decode cMD_unary 237 = .ok (.aload_n 0, 1) := by decide +kernel
theorem dMD_unary_238 : decode cMD_unary 238 = .ok (.getfield 19, 3) := by decide +kernel
theorem dMD_unary_241 : decode cMD_unary 241 = .ok (.iload_n 2, 1) := by decide +kernel
theorem dMD_unary_242 : decode cMD_unary 242 = .ok (.laload, 1) := by decide +kernel
theorem dMD_unary_243 : decode cMD_unary 243 = .ok (.lconst 0, 1) := by decide +kernel
theorem dMD_unary_244 : decode cMD_unary 244 = .ok (.lcmp, 1) := by decide +kernel
theorem dMD_unary_245 : decode cMD_unary 245 = .ok (.ifCond .le 63, 3) := by decide +kernel
theorem dMD_unary_248 : decode cMD_unary 248 = .ok (.aload_n 0, 1) := by decide +kernel
theorem dMD_unary_249 : decode cMD_unary 249 = .ok (.iload_n 2, 1) := by decide +kernel
theorem dMD_unary_250 : decode cMD_unary 250 = .ok (.iload 4, 2) := by decide +kernel
theorem dMD_unary_252 : decode cMD_unary 252 = .ok (.invokevirtual 74, 3) := by decide +kernel
theorem dMD_unary_255 : decode cMD_unary 255 = .ok (.istore 7, 2) := by decide +kernel
theorem dMD_unary_257 : decode cMD_unary 257 = .ok (.aload_n 0, 1) := by decide +kernel
theorem dMD_unary_258 : decode cMD_unary 258 = .ok (.iload_n 3, 1) := by decide +kernel
theorem dMD_unary_259 : decode cMD_unary 259 = .ok (.iload_n 1, 1) := by decide +kernel
theorem dMD_unary_260 : decode cMD_unary 260 = .ok (.iload 7, 2) := by decide +kernel
theorem dMD_unary_262 : decode cMD_unary 262 = .ok (.invokevirtual 93, 3) := by decide +kernel
theorem dMD_unary_265 : decode cMD_unary 265 = .ok (.istore 8, 2) := by decide +kernel
theorem dMD_unary_267 : decode cMD_unary 267 = .ok (.iconst 0, 1) := by decide +kernel
theorem dMD_unary_268 : decode cMD_unary 268 = .ok (.istore 9, 2) := by decide +kernel
theorem dMD_unary_270 : decode cMD_unary 270 = .ok (.iload 9, 2) := by decide +kernel
theorem dMD_unary_272 : decode cMD_unary 272 = .ok (.aload_n 0, 1) := by decide +kernel
theorem dMD_unary_273 : decode cMD_unary 273 = .ok (.getfield 62, 3) := by decide +kernel
theorem dMD_unary_276 : decode cMD_unary 276 = .ok (.if_icmp .ge 22, 3) := by decide +kernel
theorem dMD_unary_279 : decode cMD_unary 279 = .ok (.aload_n 0, 1) := by decide +kernel
theorem dMD_unary_280 : decode cMD_unary 280 = .ok (.getfield 26, 3) := by decide +kernel
theorem dMD_unary_283 : decode cMD_unary 283 = .ok (.iload 9, 2) := by decide +kernel
theorem dMD_unary_285 : decode cMD_unary 285 = .ok (.iaload, 1) := by decide +kernel
theorem dMD_unary_286 : decode cMD_unary 286 = .ok (.iload 7, 2) := by decide +kernel
theorem dMD_unary_288 : decode cMD_unary 288 = .ok (.if_icmp .ne 4, 3) := by decide +kernel
theorem dMD_unary_291 : decode cMD_unary 291 = .ok (.return_, 1) := by decide +kernel
theorem dMD_unary_292 : decode cMD_unary 292 = .ok (.iinc 9 1, 3) := by decide +kernel
theorem dMD_unary_295 : decode cMD_unary 295 = .ok (.goto (-25), 3) := by decide +kernel
theorem dMD_unary_298 : decode cMD_unary 298 = .ok (.aload_n 0, 1) := by decide +kernel
theorem dMD_unary_299 : decode cMD_unary 299 = .ok (.iload 7, 2) := by decide +kernel
theorem dMD_unary_301 : decode cMD_unary 301 = .ok (.iload 8, 2) := by decide +kernel
theorem dMD_unary_303 : decode cMD_unary 303 = .ok (.iconst 0, 1) := by decide +kernel
theorem dMD_unary_304 : decode cMD_unary 304 = .ok (.lconst 1, 1) := by decide +kernel
theorem dMD_unary_305 : decode cMD_unary 305 = .ok (.invokevirtual 82, 3) := by decide +kernel
theorem dMD_unary_308 : decode cMD_unary 308 = .ok (.return_, 1) := by decide +kernel
theorem dMD_passes_0 : decode cMD_passes 0 = .ok (.iload_n 2, 1) := by decide +kernel
theorem dMD_passes_1 : decode cMD_passes 1 = .ok (.ifCond .ne 14, 3) := by decide +kernel
theorem dMD_passes_4 : decode cMD_passes 4 = .ok (.iload_n 1, 1) := by decide +kernel
theorem dMD_passes_5 : decode cMD_passes 5 = .ok (.iload_n 3, 1) := by decide +kernel
theorem dMD_passes_6 : decode cMD_passes 6 = .ok (.if_icmp .ne 7, 3) := by decide +kernel
theorem dMD_passes_9 : decode cMD_passes 9 = .ok (.iconst 1, 1) := by decide +kernel
theorem dMD_passes_10 : decode cMD_passes 10 = .ok (.goto 4, 3) := by decide +kernel
theorem dMD_passes_13 : decode cMD_passes 13 = .ok (.iconst 0, 1) := by decide +kernel
theorem dMD_passes_14 : decode cMD_passes 14 = .ok (.ireturn, 1) := by decide +kernel
theorem dMD_passes_15 : decode cMD_passes 15 = .ok (.iload_n 2, 1) := by decide +kernel
theorem dMD_passes_16 : decode cMD_passes 16 = .ok (.iconst 1, 1) := by decide +kernel
theorem dMD_passes_17 : decode cMD_passes 17 = .ok (.if_icmp .ne 14, 3) := by decide +kernel
theorem dMD_passes_20 : decode cMD_passes 20 = .ok (.iload_n 1, 1) := by decide +kernel
theorem dMD_passes_21 : decode cMD_passes 21 = .ok (.iload_n 3, 1) := by decide +kernel
theorem dMD_passes_22 : decode cMD_passes 22 = .ok (.if_icmp .ge 7, 3) := by decide +kernel
theorem dMD_passes_25 : decode cMD_passes 25 = .ok (.iconst 1, 1) := by decide +kernel
theorem dMD_passes_26 : decode cMD_passes 26 = .ok (.goto 4, 3) := by decide +kernel
theorem dMD_passes_29 : decode cMD_passes 29 = .ok (.iconst 0, 1) := by decide +kernel
theorem dMD_passes_30 : decode cMD_passes 30 = .ok (.ireturn, 1) := by decide +kernel
theorem dMD_passes_31 : decode cMD_passes 31 = .ok (.iload_n 2, 1) := by decide +kernel
theorem dMD_passes_32 : decode cMD_passes 32 = .ok (.iconst 2, 1) := by decide +kernel
theorem dMD_passes_33 : decode cMD_passes 33 = .ok (.if_icmp .ne 16, 3) := by decide +kernel
theorem dMD_passes_36 : decode cMD_passes 36 = .ok (.iload_n 1, 1) := by decide +kernel
theorem dMD_passes_37 : decode cMD_passes 37 = .ok (.iload_n 3, 1) := by decide +kernel
theorem dMD_passes_38 : decode cMD_passes 38 = .ok (.if_icmp .le 7, 3) := by decide +kernel
theorem dMD_passes_41 : decode cMD_passes 41 = .ok (.iconst 1, 1) := by decide +kernel
theorem dMD_passes_42 : decode cMD_passes 42 = .ok (.goto 17, 3) := by decide +kernel
theorem dMD_passes_45 : decode cMD_passes 45 = .ok (.iconst 0, 1) := by decide +kernel
theorem dMD_passes_46 : decode cMD_passes 46 = .ok (.goto 13, 3) := by decide +kernel
theorem dMD_passes_49 : decode cMD_passes 49 = .ok (.iload_n 1, 1) := by decide +kernel
theorem dMD_passes_50 : decode cMD_passes 50 = .ok (.iload_n 3, 1) := by decide +kernel
theorem dMD_passes_51 : decode cMD_passes 51 = .ok (.if_icmp .eq 7, 3) := by decide +kernel
theorem dMD_passes_54 : decode cMD_passes 54 = .ok (.iconst 1, 1) := by decide +kernel
theorem dMD_passes_55 : decode cMD_passes 55 = .ok (.goto 4, 3) := by decide +kernel
theorem dMD_passes_58 : decode cMD_passes 58 = .ok (.iconst 0, 1) := by decide +kernel
theorem dMD_passes_59 : decode cMD_passes 59 = .ok (.ireturn, 1) := by decide +kernel
theorem dMD_mapped_0 : decode cMD_mapped 0 = .ok (.iload_n 2, 1) := by decide +kernel
theorem dMD_mapped_1 : decode cMD_mapped 1 = .ok (.iconst 3, 1) := by decide +kernel
theorem dMD_mapped_2 : decode cMD_mapped 2 = .ok (.if_icmp .ge 10, 3) := by decide +kernel
theorem dMD_mapped_5 : decode cMD_mapped 5 = .ok (.aload_n 0, 1) := by decide +kernel
theorem dMD_mapped_6 : decode cMD_mapped 6 = .ok (.iload_n 1, 1) := by decide +kernel
theorem dMD_mapped_7 : decode cMD_mapped 7 = .ok (.iload_n 2, 1) := by decide +kernel
theorem dMD_mapped_8 : decode cMD_mapped 8 = .ok (.invokevirtual 74, 3) := by decide +kernel
theorem dMD_mapped_11 : decode cMD_mapped 11 = .ok (.ireturn, 1) := by decide +kernel
theorem dMD_mapped_12 : decode cMD_mapped 12 = .ok (.iload_n 2, 1) := by decide +kernel
theorem dMD_mapped_13 : decode cMD_mapped 13 = .ok (.iconst 3, 1) := by decide +kernel
theorem dMD_mapped_14 : decode cMD_mapped 14 = .ok (.if_icmp .ne 7, 3) := by decide +kernel
theorem dMD_mapped_17 : decode cMD_mapped 17 = .ok (.iconst 0, 1) := by decide +kernel
theorem dMD_mapped_18 : decode cMD_mapped 18 = .ok (.goto 37, 3) := by decide +kernel
theorem dMD_mapped_21 : decode cMD_mapped 21 = .ok (.iload_n 2, 1) := by decide +kernel
theorem dMD_mapped_22 : decode cMD_mapped 22 = .ok (.iconst 4, 1) := by decide +kernel
theorem dMD_mapped_23 : decode cMD_mapped 23 = .ok (.if_icmp .ne 19, 3) := by decide +kernel
theorem dMD_mapped_26 : decode cMD_mapped 26 = .ok (.aload_n 0, 1) := by decide +kernel
theorem dMD_mapped_27 : decode cMD_mapped 27 = .ok (.getfield 7, 3) := by decide +kernel
theorem dMD_mapped_30 : decode cMD_mapped 30 = .ok (.iload_n 1, 1) := by decide +kernel
theorem dMD_mapped_31 : decode cMD_mapped 31 = .ok (.iaload, 1) := by decide +kernel
theorem dMD_mapped_32 : decode cMD_mapped 32 = .ok (.aload_n 0, 1) := by decide +kernel
theorem dMD_mapped_33 : decode cMD_mapped 33 = .ok (.getfield 13, 3) := by decide +kernel
theorem dMD_mapped_36 : decode cMD_mapped 36 = .ok (.iload_n 1, 1) := by decide +kernel
theorem dMD_mapped_37 : decode cMD_mapped 37 = .ok (.iaload, 1) := by decide +kernel
theorem dMD_mapped_38 : decode cMD_mapped 38 = .ok (.iadd, 1) := by decide +kernel
theorem dMD_mapped_39 : decode cMD_mapped 39 = .ok (.goto 16, 3) := by decide +kernel
theorem dMD_mapped_42 : decode cMD_mapped 42 = .ok (.aload_n 0, 1) := by decide +kernel
theorem dMD_mapped_43 : decode cMD_mapped 43 = .ok (.getfield 7, 3) := by decide +kernel
theorem dMD_mapped_46 : decode cMD_mapped 46 = .ok (.iload_n 1, 1) := by decide +kernel
theorem dMD_mapped_47 : decode cMD_mapped 47 = .ok (.iaload, 1) := by decide +kernel
theorem dMD_mapped_48 : decode cMD_mapped 48 = .ok (.aload_n 0, 1) := by decide +kernel
theorem dMD_mapped_49 : decode cMD_mapped 49 = .ok (.getfield 13, 3) := by decide +kernel
theorem dMD_mapped_52 : decode cMD_mapped 52 = .ok (.iload_n 1, 1) := by decide +kernel
theorem dMD_mapped_53 : decode cMD_mapped 53 = .ok (.iaload, 1) := by decide +kernel
theorem dMD_mapped_54 : decode cMD_mapped 54 = .ok (.isub, 1) := by decide +kernel
theorem dMD_mapped_55 : decode cMD_mapped 55 = .ok (.ireturn, 1) := by decide +kernel
theorem dMD_grouped_0 : decode cMD_grouped 0 = .ok (.aload_n 0, 1) := by decide +kernel
theorem dMD_grouped_1 : decode cMD_grouped 1 = .ok (.getfield 41, 3) := by decide +kernel
theorem dMD_grouped_4 : decode cMD_grouped 4 = .ok (.iload_n 2, 1) := by decide +kernel
theorem dMD_grouped_5 : decode cMD_grouped 5 = .ok (.iconst 5, 1) := by decide +kernel
theorem dMD_grouped_6 : decode cMD_grouped 6 = .ok (.imul, 1) := by decide +kernel
theorem dMD_grouped_7 : decode cMD_grouped 7 = .ok (.iconst 3, 1) := by decide +kernel
theorem dMD_grouped_8 : decode cMD_grouped 8 = .ok (.iadd, 1) := by decide +kernel
theorem dMD_grouped_9 : decode cMD_grouped 9 = .ok (.iaload, 1) := by decide +kernel
theorem dMD_grouped_10 : decode cMD_grouped 10 = .ok (.istore 4, 2) := by decide +kernel
theorem dMD_grouped_12 : decode cMD_grouped 12 = .ok (.lconst 0, 1) := by decide +kernel
theorem dMD_grouped_13 : decode cMD_grouped 13 = .ok (.lstore 5, 2) := by decide +kernel
theorem dMD_grouped_15 : decode cMD_grouped 15 = .ok (.iconst 0, 1) := by decide +kernel
theorem dMD_grouped_16 : decode cMD_grouped 16 = .ok (.istore 7, 2) := by decide +kernel
theorem dMD_grouped_18 : decode cMD_grouped 18 = .ok (.iconst 0, 1) := by decide +kernel
theorem dMD_grouped_19 : decode cMD_grouped 19 = .ok (.istore 8, 2) := by decide +kernel
theorem dMD_grouped_21 : decode cMD_grouped 21 = .ok (.iload_n 1, 1) := by decide +kernel
theorem dMD_grouped_22 : decode cMD_grouped 22 = .ok (.bipush 24, 2) := by decide +kernel
theorem dMD_grouped_24 : decode cMD_grouped 24 = .ok (.imul, 1) := by decide +kernel
theorem dMD_grouped_25 : decode cMD_grouped 25 = .ok (.istore 9, 2) := by decide +kernel
theorem dMD_grouped_27 : decode cMD_grouped 27 = .ok (.iload 9, 2) := by decide +kernel
theorem dMD_grouped_29 : decode cMD_grouped 29 = .ok (.iload_n 1, 1) := by decide +kernel
theorem dMD_grouped_30 : decode cMD_grouped 30 = .ok (.bipush 24, 2) := by decide +kernel
theorem dMD_grouped_32 : decode cMD_grouped 32 = .ok (.imul, 1) := by decide +kernel
theorem dMD_grouped_33 : decode cMD_grouped 33 = .ok (.aload_n 0, 1) := by decide +kernel
theorem dMD_grouped_34 : decode cMD_grouped 34 = .ok (.getfield 23, 3) := by decide +kernel
theorem dMD_grouped_37 : decode cMD_grouped 37 = .ok (.iload_n 1, 1) := by decide +kernel
theorem dMD_grouped_38 : decode cMD_grouped 38 = .ok (.iaload, 1) := by decide +kernel
theorem dMD_grouped_39 : decode cMD_grouped 39 = .ok (.iadd, 1) := by decide +kernel
theorem dMD_grouped_40 : decode cMD_grouped 40 = .ok (.if_icmp .ge 142, 3) := by decide +kernel
theorem dMD_grouped_43 : decode cMD_grouped 43 = .ok (.aload_n 0, 1) := by decide +kernel
theorem dMD_grouped_44 : decode cMD_grouped 44 = .ok (.getfield 19, 3) := by decide +kernel
theorem dMD_grouped_47 : decode cMD_grouped 47 = .ok (.iload 9, 2) := by decide +kernel
theorem dMD_grouped_49 : decode cMD_grouped 49 = .ok (.laload, 1) := by decide +kernel
theorem dMD_grouped_50 : decode cMD_grouped 50 = .ok (.lconst 0, 1) := by decide +kernel
theorem dMD_grouped_51 : decode cMD_grouped 51 = .ok (.lcmp, 1) := by decide +kernel
theorem dMD_grouped_52 : decode cMD_grouped 52 = .ok (.ifCond .le 124, 3) := by decide +kernel
theorem dMD_grouped_55 : decode cMD_grouped 55 = .ok (.aload_n 0, 1) := by decide +kernel
theorem dMD_grouped_56 : decode cMD_grouped 56 = .ok (.iload 9, 2) := by decide +kernel
theorem dMD_grouped_58 : decode cMD_grouped 58 = .ok (.aload_n 0, 1) := by decide +kernel
theorem dMD_grouped_59 : decode cMD_grouped 59 = .ok (.getfield 41, 3) := by decide +kernel
theorem dMD_grouped_62 : decode cMD_grouped 62 = .ok (.iload_n 2, 1) := by decide +kernel
theorem dMD_grouped_63 : decode cMD_grouped 63 = .ok (.iconst 5, 1) := by decide +kernel
theorem dMD_grouped_64 : decode cMD_grouped 64 = .ok (.imul, 1) := by decide +kernel
theorem dMD_grouped_65 : decode cMD_grouped 65 = .ok (.iconst 1, 1) := by decide +kernel
theorem dMD_grouped_66 : decode cMD_grouped 66 = .ok (.iadd, 1) := by decide +kernel
theorem dMD_grouped_67 : decode cMD_grouped 67 = .ok (.iaload, 1) := by decide +kernel
theorem dMD_grouped_68 : decode cMD_grouped 68 = .ok (.invokevirtual 74, 3) := by decide +kernel
theorem dMD_grouped_71 : decode cMD_grouped 71 = .ok (.iload_n 3, 1) := by decide +kernel
theorem dMD_grouped_72 : decode cMD_grouped 72 = .ok (.if_icmp .ne 104, 3) := by decide +kernel
theorem dMD_grouped_75 : decode cMD_grouped 75 = .ok (.aload_n 0, 1) := by decide +kernel
theorem dMD_grouped_76 : decode cMD_grouped 76 = .ok (.iload 9, 2) := by decide +kernel
theorem dMD_grouped_78 : decode cMD_grouped 78 = .ok (.aload_n 0, 1) := by decide +kernel
theorem dMD_grouped_79 : decode cMD_grouped 79 = .ok (.getfield 41, 3) := by decide +kernel
theorem dMD_grouped_82 : decode cMD_grouped 82 = .ok (.iload_n 2, 1) := by decide +kernel
theorem dMD_grouped_83 : decode cMD_grouped 83 = .ok (.iconst 5, 1) := by decide +kernel
theorem dMD_grouped_84 : decode cMD_grouped 84 = .ok (.imul, 1) := by decide +kernel
theorem dMD_grouped_85 : decode cMD_grouped 85 = .ok (.iconst 2, 1) := by decide +kernel
theorem dMD_grouped_86 : decode cMD_grouped 86 = .ok (.iadd, 1) := by decide +kernel
theorem dMD_grouped_87 : decode cMD_grouped 87 = .ok (.iaload, 1) := by decide +kernel
theorem dMD_grouped_88 : decode cMD_grouped 88 = .ok (.invokevirtual 74, 3) := by decide +kernel
theorem dMD_grouped_91 : decode cMD_grouped 91 = .ok (.istore 10, 2) := by decide +kernel
theorem dMD_grouped_93 : decode cMD_grouped 93 = .ok (.lload 5, 2) := by decide +kernel
theorem dMD_grouped_95 : decode cMD_grouped 95 = .ok (.iload 4, 2) := by decide +kernel
theorem dMD_grouped_97 : decode cMD_grouped 97 = .ok (.ifCond .ne 13, 3) := by decide +kernel
theorem dMD_grouped_100 : decode cMD_grouped 100 = .ok (.aload_n 0, 1) := by decide +kernel
theorem dMD_grouped_101 : decode cMD_grouped 101 = .ok (.getfield 19, 3) := by decide +kernel
theorem dMD_grouped_104 : decode cMD_grouped 104 = .ok (.iload 9, 2) := by decide +kernel
theorem dMD_grouped_106 : decode cMD_grouped 106 = .ok (.laload, 1) := by decide +kernel
theorem dMD_grouped_107 : decode cMD_grouped 107 = .ok (.goto 14, 3) := by decide +kernel
theorem dMD_grouped_110 : decode cMD_grouped 110 = .ok (.aload_n 0, 1) := by decide +kernel
theorem dMD_grouped_111 : decode cMD_grouped 111 = .ok (.getfield 19, 3) := by decide +kernel
theorem dMD_grouped_114 : decode cMD_grouped 114 = .ok (.iload 9, 2) := by decide +kernel
theorem dMD_grouped_116 : decode cMD_grouped 116 = .ok (.laload, 1) := by decide +kernel
theorem dMD_grouped_117 : decode cMD_grouped 117 = .ok (.iload 10, 2) := by decide +kernel
theorem dMD_grouped_119 : decode cMD_grouped 119 = .ok (.i2l, 1) := by decide +kernel
theorem dMD_grouped_120 : decode cMD_grouped 120 = .ok (.lmul, 1) := by decide +kernel
theorem dMD_grouped_121 : decode cMD_grouped 121 = .ok (.ladd, 1) := by decide +kernel
theorem dMD_grouped_122 : decode cMD_grouped 122 = .ok (.lstore 5, 2) := by decide +kernel
theorem dMD_grouped_124 : decode cMD_grouped 124 = .ok (.iload 4, 2) := by decide +kernel
theorem dMD_grouped_126 : decode cMD_grouped 126 = .ok (.iconst 2, 1) := by decide +kernel
theorem dMD_grouped_127 : decode cMD_grouped 127 = .ok (.if_icmp .ne 18, 3) := by decide +kernel
theorem dMD_grouped_130 : decode cMD_grouped 130 = .ok (.iload 10, 2) := by decide +kernel
theorem dMD_grouped_132 : decode cMD_grouped 132 = .ok (.iload 8, 2) := by decide +kernel
theorem dMD_grouped_134 : decode cMD_grouped 134 = .ok (.if_icmp .ge 7, 3) := by decide +kernel
theorem dMD_grouped_137 : decode cMD_grouped 137 = .ok (.iconst 1, 1) := by decide +kernel
theorem dMD_grouped_138 : decode cMD_grouped 138 = .ok (.goto 19, 3) := by decide +kernel
theorem dMD_grouped_141 : decode cMD_grouped 141 = .ok (.iconst 0, 1) := by decide +kernel
theorem dMD_grouped_142 : decode cMD_grouped 142 = .ok (.goto 15, 3) := by decide +kernel
theorem dMD_grouped_145 : decode cMD_grouped 145 = .ok (.iload 10, 2) := by decide +kernel
theorem dMD_grouped_147 : decode cMD_grouped 147 = .ok (.iload 8, 2) := by decide +kernel
theorem dMD_grouped_149 : decode cMD_grouped 149 = .ok (.if_icmp .le 7, 3) := by decide +kernel
theorem dMD_grouped_152 : decode cMD_grouped 152 = .ok (.iconst 1, 1) := by decide +kernel
theorem dMD_grouped_153 : decode cMD_grouped 153 = .ok (.goto 4, 3) := by decide +kernel
theorem dMD_grouped_156 : decode cMD_grouped 156 = .ok (.iconst 0, 1) := by decide +kernel
theorem dMD_grouped_157 : decode cMD_grouped 157 = .ok (.istore 11, 2) := by decide +kernel
theorem dMD_grouped_159 : decode cMD_grouped 159 = .ok (.iload 7, 2) := by decide +kernel
theorem dMD_grouped_161 : decode cMD_grouped 161 = .ok (.ifCond .eq 8, 3) := by decide +kernel
theorem dMD_grouped_164 : decode cMD_grouped 164 = .ok (.iload 11, 2) := by decide +kernel
theorem dMD_grouped_166 : decode cMD_grouped 166 = .ok (.ifCond .eq 7, 3) := by decide +kernel
theorem dMD_grouped_169 : decode cMD_grouped 169 = .ok (.iload 10, 2) := by decide +kernel
theorem dMD_grouped_171 : decode cMD_grouped 171 = .ok (.istore 8, 2) := by decide +kernel
theorem dMD_grouped_173 : decode cMD_grouped 173 = .ok (.iconst 1, 1) := by decide +kernel
theorem dMD_grouped_174 : decode cMD_grouped 174 = .ok (.istore 7, 2) := by decide +kernel
theorem dMD_grouped_176 : decode cMD_grouped 176 = .ok (.iinc 9 1, 3) := by decide +kernel
theorem dMD_grouped_179 : decode cMD_grouped 179 = .ok (.goto (-152), 3) := by decide +kernel
theorem dMD_grouped_182 : decode cMD_grouped 182 = .ok (.iload 4, 2) := by decide +kernel
theorem dMD_grouped_184 : decode cMD_grouped 184 = .ok (.iconst 2, 1) := by decide +kernel
theorem dMD_grouped_185 : decode cMD_grouped 185 = .ok (.if_icmp .ge 9, 3) := by decide +kernel
theorem dMD_grouped_188 : decode cMD_grouped 188 = .ok (.lload 5, 2) := by decide +kernel
theorem dMD_grouped_190 : decode cMD_grouped 190 = .ok (.l2i, 1) := by decide +kernel
theorem dMD_grouped_191 : decode cMD_grouped 191 = .ok (.goto 5, 3) := by decide +kernel
theorem dMD_grouped_194 : decode cMD_grouped 194 = .ok (.iload 8, 2) := by decide +kernel
theorem dMD_grouped_196 : decode cMD_grouped 196 = .ok (.ireturn, 1) := by decide +kernel
theorem dMD_settle_0 : decode cMD_settle 0 = .ok (.iconst 0, 1) := by decide +kernel
theorem dMD_settle_1 : decode cMD_settle 1 = .ok (.istore_n 3, 1) := by decide +kernel
theorem dMD_settle_2 : decode cMD_settle 2 = .ok (.iconst 0, 1) := by decide +kernel
theorem dMD_settle_3 : decode cMD_settle 3 = .ok (.istore 4, 2) := by decide +kernel
theorem dMD_settle_5 : decode cMD_settle 5 = .ok (.iload 4, 2) := by decide +kernel
theorem dMD_settle_7 : decode cMD_settle 7 = .ok (.aload_n 0, 1) := by decide +kernel
theorem dMD_settle_8 : decode cMD_settle 8 = .ok (.getfield 62, 3) := by decide +kernel
theorem dMD_settle_11 : decode cMD_settle 11 = .ok (.if_icmp .ge 54, 3) := by decide +kernel
theorem dMD_settle_14 : decode cMD_settle 14 = .ok (.aload_n 0, 1) := by decide +kernel
theorem dMD_settle_15 : decode cMD_settle 15 = .ok (.getfield 35, 3) := by decide +kernel
theorem dMD_settle_18 : decode cMD_settle 18 = .ok (.iload 4, 2) := by decide +kernel
theorem dMD_settle_20 : decode cMD_settle 20 = .ok (.laload, 1) := by decide +kernel
theorem dMD_settle_21 : decode cMD_settle 21 = .ok (.ldc2_w 66, 3) := by decide +kernel
theorem dMD_settle_24 : decode cMD_settle 24 = .ok (.lcmp, 1) := by decide +kernel
theorem dMD_settle_25 : decode cMD_settle 25 = .ok (.ifCond .gt 17, 3) := by decide +kernel
theorem dMD_settle_28 : decode cMD_settle 28 = .ok (.aload_n 0, 1) := by decide +kernel
theorem dMD_settle_29 : decode cMD_settle 29 = .ok (.getfield 35, 3) := by decide +kernel
theorem dMD_settle_32 : decode cMD_settle 32 = .ok (.iload 4, 2) := by decide +kernel
theorem dMD_settle_34 : decode cMD_settle 34 = .ok (.laload, 1) := by decide +kernel
theorem dMD_settle_35 : decode cMD_settle 35 = .ok (.ldc2_w 68, 3) := by decide +kernel
theorem dMD_settle_38 : decode cMD_settle 38 = .ok (.lcmp, 1) := by decide +kernel
theorem dMD_settle_39 : decode cMD_settle 39 = .ok (.ifCond .ge 5, 3) := by decide +kernel
theorem dMD_settle_42 : decode cMD_settle 42 = .ok (.iconst 0, 1) := by decide +kernel
theorem dMD_settle_43 : decode cMD_settle 43 = .ok (.ireturn, 1) := by decide +kernel
theorem dMD_settle_44 : decode cMD_settle 44 = .ok (.aload_n 0, 1) := by decide +kernel
theorem dMD_settle_45 : decode cMD_settle 45 = .ok (.getfield 35, 3) := by decide +kernel
theorem dMD_settle_48 : decode cMD_settle 48 = .ok (.iload 4, 2) := by decide +kernel
theorem dMD_settle_50 : decode cMD_settle 50 = .ok (.laload, 1) := by decide +kernel
theorem dMD_settle_51 : decode cMD_settle 51 = .ok (.lconst 0, 1) := by decide +kernel
theorem dMD_settle_52 : decode cMD_settle 52 = .ok (.lcmp, 1) := by decide +kernel
theorem dMD_settle_53 : decode cMD_settle 53 = .ok (.ifCond .eq 6, 3) := by decide +kernel
theorem dMD_settle_56 : decode cMD_settle 56 = .ok (.iinc 3 1, 3) := by decide +kernel
theorem dMD_settle_59 : decode cMD_settle 59 = .ok (.iinc 4 1, 3) := by decide +kernel
theorem dMD_settle_62 : decode cMD_settle 62 = .ok (.goto (-57), 3) := by decide +kernel
theorem dMD_settle_65 : decode cMD_settle 65 = .ok (.iload_n 3, 1) := by decide +kernel
theorem dMD_settle_66 : decode cMD_settle 66 = .ok (.iload_n 2, 1) := by decide +kernel
theorem dMD_settle_67 : decode cMD_settle 67 = .ok (.if_icmp .le 5, 3) := by decide +kernel
theorem dMD_settle_70 : decode cMD_settle 70 = .ok (.iconst 0, 1) := by decide +kernel
theorem dMD_settle_71 : decode cMD_settle 71 = .ok (.ireturn, 1) := by decide +kernel
theorem dMD_settle_72 : decode cMD_settle 72 = .ok (.iconst 0, 1) := by decide +kernel
theorem dMD_settle_73 : decode cMD_settle 73 = .ok (.istore 4, 2) := by decide +kernel
theorem dMD_settle_75 : decode cMD_settle 75 = .ok (.iload 4, 2) := by decide +kernel
theorem dMD_settle_77 : decode cMD_settle 77 = .ok (.aload_n 0, 1) := by decide +kernel
theorem dMD_settle_78 : decode cMD_settle 78 = .ok (.getfield 62, 3) := by decide +kernel
theorem dMD_settle_81 : decode cMD_settle 81 = .ok (.if_icmp .ge 130, 3) := by decide +kernel
theorem dMD_settle_84 : decode cMD_settle 84 = .ok (.aload_n 0, 1) := by decide +kernel
theorem dMD_settle_85 : decode cMD_settle 85 = .ok (.getfield 35, 3) := by decide +kernel
theorem dMD_settle_88 : decode cMD_settle 88 = .ok (.iload 4, 2) := by decide +kernel
theorem dMD_settle_90 : decode cMD_settle 90 = .ok (.laload, 1) := by decide +kernel
theorem dMD_settle_91 : decode cMD_settle 91 = .ok (.lconst 0, 1) := by decide +kernel
theorem dMD_settle_92 : decode cMD_settle 92 = .ok (.lcmp, 1) := by decide +kernel
theorem dMD_settle_93 : decode cMD_settle 93 = .ok (.ifCond .ne 6, 3) := by decide +kernel
theorem dMD_settle_96 : decode cMD_settle 96 = .ok (.goto 109, 3) := by decide +kernel
theorem dMD_settle_99 : decode cMD_settle 99 = .ok (.iload_n 1, 1) := by decide +kernel
theorem dMD_settle_100 : decode cMD_settle 100 = .ok (.bipush 24, 2) := by decide +kernel
theorem dMD_settle_102 : decode cMD_settle 102 = .ok (.imul, 1) := by decide +kernel
theorem dMD_settle_103 : decode cMD_settle 103 = .ok (.istore 5, 2) := by decide +kernel
theorem dMD_settle_105 : decode cMD_settle 105 = .ok (.iconst 0, 1) := by decide +kernel
theorem dMD_settle_106 : decode cMD_settle 106 = .ok (.istore 6, 2) := by decide +kernel
theorem dMD_settle_108 : decode cMD_settle 108 = .ok (.iload 6, 2) := by decide +kernel
theorem dMD_settle_110 : decode cMD_settle 110 = .ok (.aload_n 0, 1) := by decide +kernel
theorem dMD_settle_111 : decode cMD_settle 111 = .ok (.getfield 62, 3) := by decide +kernel
theorem dMD_settle_114 : decode cMD_settle 114 = .ok (.if_icmp .ge 35, 3) := by decide +kernel
theorem dMD_settle_117 : decode cMD_settle 117 = .ok (.aload_n 0, 1) := by decide +kernel
theorem dMD_settle_118 : decode cMD_settle 118 = .ok (.getfield 35, 3) := by decide +kernel
theorem dMD_settle_121 : decode cMD_settle 121 = .ok (.iload 6, 2) := by decide +kernel
theorem dMD_settle_123 : decode cMD_settle 123 = .ok (.laload, 1) := by decide +kernel
theorem dMD_settle_124 : decode cMD_settle 124 = .ok (.lconst 0, 1) := by decide +kernel
theorem dMD_settle_125 : decode cMD_settle 125 = .ok (.lcmp, 1) := by decide +kernel
theorem dMD_settle_126 : decode cMD_settle 126 = .ok (.ifCond .eq 17, 3) := by decide +kernel
theorem dMD_settle_129 : decode cMD_settle 129 = .ok (.aload_n 0, 1) := by decide +kernel
theorem dMD_settle_130 : decode cMD_settle 130 = .ok (.iload 6, 2) := by decide +kernel
theorem dMD_settle_132 : decode cMD_settle 132 = .ok (.iload 4, 2) := by decide +kernel
theorem dMD_settle_134 : decode cMD_settle 134 = .ok (.invokevirtual 70, 3) := by decide +kernel
theorem dMD_settle_137 : decode cMD_settle 137 = .ok (.ifCond .eq 6, 3) := by decide +kernel
theorem dMD_settle_140 : decode cMD_settle 140 = .ok (.iinc 5 1, 3) := by decide +kernel
theorem dMD_settle_143 : decode cMD_settle 143 = .ok (.iinc 6 1, 3) := by decide +kernel
theorem dMD_settle_146 : decode cMD_settle 146 = .ok (.goto (-38), 3) := by decide +kernel
theorem dMD_settle_149 : decode cMD_settle 149 = .ok (.aload_n 0, 1) := by decide +kernel
theorem dMD_settle_150 : decode cMD_settle 150 = .ok (.getfield 7, 3) := by decide +kernel
theorem dMD_settle_153 : decode cMD_settle 153 = .ok (.iload 5, 2) := by decide +kernel
theorem dMD_settle_155 : decode cMD_settle 155 = .ok (.aload_n 0, 1) := by decide +kernel
theorem dMD_settle_156 : decode cMD_settle 156 = .ok (.getfield 26, 3) := by decide +kernel
theorem dMD_settle_159 : decode cMD_settle 159 = .ok (.iload 4, 2) := by decide +kernel
theorem dMD_settle_161 : decode cMD_settle 161 = .ok (.iaload, 1) := by decide +kernel
theorem dMD_settle_162 : decode cMD_settle 162 = .ok (.iastore, 1) := by decide +kernel
theorem dMD_settle_163 : decode cMD_settle 163 = .ok (.aload_n 0, 1) := by decide +kernel
theorem dMD_settle_164 : decode cMD_settle 164 = .ok (.getfield 13, 3) := by decide +kernel
theorem dMD_settle_167 : decode cMD_settle 167 = .ok (.iload 5, 2) := by decide +kernel
theorem dMD_settle_169 : decode cMD_settle 169 = .ok (.aload_n 0, 1) := by decide +kernel
theorem dMD_settle_170 : decode cMD_settle 170 = .ok (.getfield 29, 3) := by decide +kernel
theorem dMD_settle_173 : decode cMD_settle 173 = .ok (.iload 4, 2) := by decide +kernel
theorem dMD_settle_175 : decode cMD_settle 175 = .ok (.iaload, 1) := by decide +kernel
theorem dMD_settle_176 : decode cMD_settle 176 = .ok (.iastore, 1) := by decide +kernel
theorem dMD_settle_177 : decode cMD_settle 177 = .ok (.aload_n 0, 1) := by decide +kernel
theorem dMD_settle_178 : decode cMD_settle 178 = .ok (.getfield 16, 3) := by decide +kernel
theorem dMD_settle_181 : decode cMD_settle 181 = .ok (.iload 5, 2) := by decide +kernel
theorem dMD_settle_183 : decode cMD_settle 183 = .ok (.aload_n 0, 1) := by decide +kernel
theorem dMD_settle_184 : decode cMD_settle 184 = .ok (.getfield 32, 3) := by decide +kernel
theorem dMD_settle_187 : decode cMD_settle 187 = .ok (.iload 4, 2) := by decide +kernel
theorem dMD_settle_189 : decode cMD_settle 189 = .ok (.iaload, 1) := by decide +kernel
theorem dMD_settle_190 : decode cMD_settle 190 = .ok (.iastore, 1) := by decide +kernel
theorem dMD_settle_191 : decode cMD_settle 191 = .ok (.aload_n 0, 1) := by decide +kernel
theorem dMD_settle_192 : decode cMD_settle 192 = .ok (.getfield 19, 3) := by decide +kernel
theorem dMD_settle_195 : decode cMD_settle 195 = .ok (.iload 5, 2) := by decide +kernel
theorem dMD_settle_197 : decode cMD_settle 197 = .ok (.aload_n 0, 1) := by decide +kernel
theorem dMD_settle_198 : decode cMD_settle 198 = .ok (.getfield 35, 3) := by decide +kernel
theorem dMD_settle_201 : decode cMD_settle 201 = .ok (.iload 4, 2) := by decide +kernel
theorem dMD_settle_203 : decode cMD_settle 203 = .ok (.laload, 1) := by decide +kernel
theorem dMD_settle_204 : decode cMD_settle 204 = .ok (.lastore, 1) := by decide +kernel
theorem dMD_settle_205 : decode cMD_settle 205 = .ok (.iinc 4 1, 3) := by decide +kernel
theorem dMD_settle_208 : decode cMD_settle 208 = .ok (.goto (-133), 3) := by decide +kernel
theorem dMD_settle_211 : decode cMD_settle 211 = .ok (.aload_n 0, 1) := by decide +kernel
theorem dMD_settle_212 : decode cMD_settle 212 = .ok (.getfield 23, 3) := by decide +kernel
theorem dMD_settle_215 : decode cMD_settle 215 = .ok (.iload_n 1, 1) := by decide +kernel
theorem dMD_settle_216 : decode cMD_settle 216 = .ok (.iload_n 3, 1) := by decide +kernel
theorem dMD_settle_217 : decode cMD_settle 217 = .ok (.iastore, 1) := by decide +kernel
theorem dMD_settle_218 : decode cMD_settle 218 = .ok (.iconst 1, 1) := by decide +kernel
theorem dMD_settle_219 : decode cMD_settle 219 = .ok (.ireturn, 1) := by decide +kernel
end
section
theorem dMD_before_0 : decode cMD_before 0 = .ok (.aload_n 0, 1) := by decide +kernel
theorem dMD_before_1 : decode cMD_before 1 = .ok (.getfield 26, 3) := by decide +kernel
theorem dMD_before_4 : decode cMD_before 4 = .ok (.iload_n 1, 1) := by decide +kernel
theorem dMD_before_5 : decode cMD_before 5 = .ok (.iaload, 1) := by decide +kernel
theorem dMD_before_6 : decode cMD_before 6 = .ok (.aload_n 0, 1) := by decide +kernel
theorem dMD_before_7 : decode cMD_before 7 = .ok (.getfield 26, 3) := by decide +kernel
theorem dMD_before_10 : decode cMD_before 10 = .ok (.iload_n 2, 1) := by decide +kernel
theorem dMD_before_11 : decode cMD_before 11 = .ok (.iaload, 1) := by decide +kernel
theorem dMD_before_12 : decode cMD_before 12 = .ok (.if_icmp .eq 24, 3) := by decide +kernel
theorem dMD_before_15 : decode cMD_before 15 = .ok (.aload_n 0, 1) := by decide +kernel
theorem dMD_before_16 : decode cMD_before 16 = .ok (.getfield 26, 3) := by decide +kernel
theorem dMD_before_19 : decode cMD_before 19 = .ok (.iload_n 1, 1) := by decide +kernel
theorem dMD_before_20 : decode cMD_before 20 = .ok (.iaload, 1) := by decide +kernel
theorem dMD_before_21 : decode cMD_before 21 = .ok (.aload_n 0, 1) := by decide +kernel
theorem dMD_before_22 : decode cMD_before 22 = .ok (.getfield 26, 3) := by decide +kernel
theorem dMD_before_25 : decode cMD_before 25 = .ok (.iload_n 2, 1) := by decide +kernel
theorem dMD_before_26 : decode cMD_before 26 = .ok (.iaload, 1) := by decide +kernel
theorem dMD_before_27 : decode cMD_before 27 = .ok (.if_icmp .ge 7, 3) := by decide +kernel
theorem dMD_before_30 : decode cMD_before 30 = .ok (.iconst 1, 1) := by decide +kernel
theorem dMD_before_31 : decode cMD_before 31 = .ok (.goto 4, 3) := by decide +kernel
theorem dMD_before_34 : decode cMD_before 34 = .ok (.iconst 0, 1) := by decide +kernel
theorem dMD_before_35 : decode cMD_before 35 = .ok (.ireturn, 1) := by decide +kernel
theorem dMD_before_36 : decode cMD_before 36 = .ok (.aload_n 0, 1) := by decide +kernel
theorem dMD_before_37 : decode cMD_before 37 = .ok (.getfield 29, 3) := by decide +kernel
theorem dMD_before_40 : decode cMD_before 40 = .ok (.iload_n 1, 1) := by decide +kernel
theorem dMD_before_41 : decode cMD_before 41 = .ok (.iaload, 1) := by decide +kernel
theorem dMD_before_42 : decode cMD_before 42 = .ok (.aload_n 0, 1) := by decide +kernel
theorem dMD_before_43 : decode cMD_before 43 = .ok (.getfield 29, 3) := by decide +kernel
theorem dMD_before_46 : decode cMD_before 46 = .ok (.iload_n 2, 1) := by decide +kernel
theorem dMD_before_47 : decode cMD_before 47 = .ok (.iaload, 1) := by decide +kernel
theorem dMD_before_48 : decode cMD_before 48 = .ok (.if_icmp .eq 24, 3) := by decide +kernel
theorem dMD_before_51 : decode cMD_before 51 = .ok (.aload_n 0, 1) := by decide +kernel
theorem dMD_before_52 : decode cMD_before 52 = .ok (.getfield 29, 3) := by decide +kernel
theorem dMD_before_55 : decode cMD_before 55 = .ok (.iload_n 1, 1) := by decide +kernel
theorem dMD_before_56 : decode cMD_before 56 = .ok (.iaload, 1) := by decide +kernel
theorem dMD_before_57 : decode cMD_before 57 = .ok (.aload_n 0, 1) := by decide +kernel
theorem dMD_before_58 : decode cMD_before 58 = .ok (.getfield 29, 3) := by decide +kernel
theorem dMD_before_61 : decode cMD_before 61 = .ok (.iload_n 2, 1) := by decide +kernel
theorem dMD_before_62 : decode cMD_before 62 = .ok (.iaload, 1) := by decide +kernel
theorem dMD_before_63 : decode cMD_before 63 = .ok (.if_icmp .ge 7, 3) := by decide +kernel
theorem dMD_before_66 : decode cMD_before 66 = .ok (.iconst 1, 1) := by decide +kernel
theorem dMD_before_67 : decode cMD_before 67 = .ok (.goto 4, 3) := by decide +kernel
theorem dMD_before_70 : decode cMD_before 70 = .ok (.iconst 0, 1) := by decide +kernel
theorem dMD_before_71 : decode cMD_before 71 = .ok (.ireturn, 1) := by decide +kernel
theorem dMD_before_72 : decode cMD_before 72 = .ok (.aload_n 0, 1) := by decide +kernel
theorem dMD_before_73 : decode cMD_before 73 = .ok (.getfield 32, 3) := by decide +kernel
theorem dMD_before_76 : decode cMD_before 76 = .ok (.iload_n 1, 1) := by decide +kernel
theorem dMD_before_77 : decode cMD_before 77 = .ok (.iaload, 1) := by decide +kernel
theorem dMD_before_78 : decode cMD_before 78 = .ok (.aload_n 0, 1) := by decide +kernel
theorem dMD_before_79 : decode cMD_before 79 = .ok (.getfield 32, 3) := by decide +kernel
theorem dMD_before_82 : decode cMD_before 82 = .ok (.iload_n 2, 1) := by decide +kernel
theorem dMD_before_83 : decode cMD_before 83 = .ok (.iaload, 1) := by decide +kernel
theorem dMD_before_84 : decode cMD_before 84 = .ok (.if_icmp .ge 7, 3) := by decide +kernel
theorem dMD_before_87 : decode cMD_before 87 = .ok (.iconst 1, 1) := by decide +kernel
theorem dMD_before_88 : decode cMD_before 88 = .ok (.goto 4, 3) := by decide +kernel
theorem dMD_before_91 : decode cMD_before 91 = .ok (.iconst 0, 1) := by decide +kernel
theorem dMD_before_92 : decode cMD_before 92 = .ok (.ireturn, 1) := by decide +kernel
theorem dMD_filter_0 : decode cMD_filter 0 = .ok (.aload_n 0, 1) := by decide +kernel
theorem dMD_filter_1 : decode cMD_filter 1 = .ok (.iload_n 1, 1) := by decide +kernel
theorem dMD_filter_2 : decode cMD_filter 2 = .ok (.aload_n 0, 1) := by decide +kernel
theorem dMD_filter_3 : decode cMD_filter 3 = .ok (.getfield 106, 3) := by decide +kernel
theorem dMD_filter_6 : decode cMD_filter 6 = .ok (.invokevirtual 112, 3) := by decide +kernel
theorem dMD_filter_9 : decode cMD_filter 9 = .ok (.ifCond .ne 21, 3) := by decide +kernel
theorem dMD_filter_12 : decode cMD_filter 12 = .ok (.aload_n 0, 1) := by decide +kernel
theorem dMD_filter_13 : decode cMD_filter 13 = .ok (.iload_n 2, 1) := by decide +kernel
theorem dMD_filter_14 : decode cMD_filter 14 = .ok (.iconst 3, 1) := by decide +kernel
theorem dMD_filter_15 : decode cMD_filter 15 = .ok (.invokevirtual 112, 3) := by decide +kernel
theorem dMD_filter_18 : decode cMD_filter 18 = .ok (.ifCond .ne 12, 3) := by decide +kernel
theorem dMD_filter_21 : decode cMD_filter 21 = .ok (.aload_n 0, 1) := by decide +kernel
theorem dMD_filter_22 : decode cMD_filter 22 = .ok (.iload_n 3, 1) := by decide +kernel
theorem dMD_filter_23 : decode cMD_filter 23 = .ok (.iconst 4, 1) := by decide +kernel
theorem dMD_filter_24 : decode cMD_filter 24 = .ok (.invokevirtual 112, 3) := by decide +kernel
theorem dMD_filter_27 : decode cMD_filter 27 = .ok (.ifCond .eq 5, 3) := by decide +kernel
theorem dMD_filter_30 : decode cMD_filter 30 = .ok (.iconst (-1), 1) := by decide +kernel
theorem dMD_filter_31 : decode cMD_filter 31 = .ok (.ireturn, 1) := by decide +kernel
theorem dMD_filter_32 : decode cMD_filter 32 = .ok (.aload_n 0, 1) := by decide +kernel
theorem dMD_filter_33 : decode cMD_filter 33 = .ok (.iconst 1, 1) := by decide +kernel
theorem dMD_filter_34 : decode cMD_filter 34 = .ok (.iload_n 1, 1) := by decide +kernel
theorem dMD_filter_35 : decode cMD_filter 35 = .ok (.iload_n 2, 1) := by decide +kernel
theorem dMD_filter_36 : decode cMD_filter 36 = .ok (.iload_n 3, 1) := by decide +kernel
theorem dMD_filter_37 : decode cMD_filter 37 = .ok (.iload 4, 2) := by decide +kernel
theorem dMD_filter_39 : decode cMD_filter 39 = .ok (.iconst 0, 1) := by decide +kernel
theorem dMD_filter_40 : decode cMD_filter 40 = .ok (.invokevirtual 115, 3) := by decide +kernel
theorem dMD_filter_43 : decode cMD_filter 43 = .ok (.ireturn, 1) := by decide +kernel
theorem dMD_map_0 : decode cMD_map 0 = .ok (.aload_n 0, 1) := by decide +kernel
theorem dMD_map_1 : decode cMD_map 1 = .ok (.iload_n 1, 1) := by decide +kernel
theorem dMD_map_2 : decode cMD_map 2 = .ok (.aload_n 0, 1) := by decide +kernel
theorem dMD_map_3 : decode cMD_map 3 = .ok (.getfield 106, 3) := by decide +kernel
theorem dMD_map_6 : decode cMD_map 6 = .ok (.invokevirtual 112, 3) := by decide +kernel
theorem dMD_map_9 : decode cMD_map 9 = .ok (.ifCond .ne 34, 3) := by decide +kernel
theorem dMD_map_12 : decode cMD_map 12 = .ok (.aload_n 0, 1) := by decide +kernel
theorem dMD_map_13 : decode cMD_map 13 = .ok (.iload_n 2, 1) := by decide +kernel
theorem dMD_map_14 : decode cMD_map 14 = .ok (.bipush 6, 2) := by decide +kernel
theorem dMD_map_16 : decode cMD_map 16 = .ok (.invokevirtual 112, 3) := by decide +kernel
theorem dMD_map_19 : decode cMD_map 19 = .ok (.ifCond .ne 24, 3) := by decide +kernel
theorem dMD_map_22 : decode cMD_map 22 = .ok (.aload_n 0, 1) := by decide +kernel
theorem dMD_map_23 : decode cMD_map 23 = .ok (.iload_n 3, 1) := by decide +kernel
theorem dMD_map_24 : decode cMD_map 24 = .ok (.bipush 6, 2) := by decide +kernel
theorem dMD_map_26 : decode cMD_map 26 = .ok (.invokevirtual 112, 3) := by decide +kernel
theorem dMD_map_29 : decode cMD_map 29 = .ok (.ifCond .ne 14, 3) := by decide +kernel
theorem dMD_map_32 : decode cMD_map 32 = .ok (.aload_n 0, 1) := by decide +kernel
theorem dMD_map_33 : decode cMD_map 33 = .ok (.iload 4, 2) := by decide +kernel
theorem dMD_map_35 : decode cMD_map 35 = .ok (.bipush 6, 2) := by decide +kernel
theorem dMD_map_37 : decode cMD_map 37 = .ok (.invokevirtual 112, 3) := by decide +kernel
theorem dMD_map_40 : decode cMD_map 40 = .ok (.ifCond .eq 5, 3) := by decide +kernel
theorem dMD_map_43 : decode cMD_map 43 = .ok (.iconst (-1), 1) := by decide +kernel
theorem dMD_map_44 : decode cMD_map 44 = .ok (.ireturn, 1) := by decide +kernel
theorem dMD_map_45 : decode cMD_map 45 = .ok (.aload_n 0, 1) := by decide +kernel
theorem dMD_map_46 : decode cMD_map 46 = .ok (.iconst 2, 1) := by decide +kernel
theorem dMD_map_47 : decode cMD_map 47 = .ok (.iload_n 1, 1) := by decide +kernel
theorem dMD_map_48 : decode cMD_map 48 = .ok (.iload_n 2, 1) := by decide +kernel
theorem dMD_map_49 : decode cMD_map 49 = .ok (.iload_n 3, 1) := by decide +kernel
theorem dMD_map_50 : decode cMD_map 50 = .ok (.iload 4, 2) := by decide +kernel
theorem dMD_map_52 : decode cMD_map 52 = .ok (.iconst 0, 1) := by decide +kernel
theorem dMD_map_53 : decode cMD_map 53 = .ok (.invokevirtual 115, 3) := by decide +kernel
theorem dMD_map_56 : decode cMD_map 56 = .ok (.ireturn, 1) := by decide +kernel
theorem dMD_join_0 : decode cMD_join 0 = .ok (.aload_n 0, 1) := by decide +kernel
theorem dMD_join_1 : decode cMD_join 1 = .ok (.iload_n 1, 1) := by decide +kernel
theorem dMD_join_2 : decode cMD_join 2 = .ok (.aload_n 0, 1) := by decide +kernel
theorem dMD_join_3 : decode cMD_join 3 = .ok (.getfield 106, 3) := by decide +kernel
theorem dMD_join_6 : decode cMD_join 6 = .ok (.invokevirtual 112, 3) := by decide +kernel
theorem dMD_join_9 : decode cMD_join 9 = .ok (.ifCond .ne 46, 3) := by decide +kernel
theorem dMD_join_12 : decode cMD_join 12 = .ok (.aload_n 0, 1) := by decide +kernel
theorem dMD_join_13 : decode cMD_join 13 = .ok (.iload_n 2, 1) := by decide +kernel
theorem dMD_join_14 : decode cMD_join 14 = .ok (.aload_n 0, 1) := by decide +kernel
theorem dMD_join_15 : decode cMD_join 15 = .ok (.getfield 106, 3) := by decide +kernel
theorem dMD_join_18 : decode cMD_join 18 = .ok (.invokevirtual 112, 3) := by decide +kernel
theorem dMD_join_21 : decode cMD_join 21 = .ok (.ifCond .ne 34, 3) := by decide +kernel
theorem dMD_join_24 : decode cMD_join 24 = .ok (.aload_n 0, 1) := by decide +kernel
theorem dMD_join_25 : decode cMD_join 25 = .ok (.iload_n 3, 1) := by decide +kernel
theorem dMD_join_26 : decode cMD_join 26 = .ok (.iconst 3, 1) := by decide +kernel
theorem dMD_join_27 : decode cMD_join 27 = .ok (.invokevirtual 112, 3) := by decide +kernel
theorem dMD_join_30 : decode cMD_join 30 = .ok (.ifCond .ne 25, 3) := by decide +kernel
theorem dMD_join_33 : decode cMD_join 33 = .ok (.aload_n 0, 1) := by decide +kernel
theorem dMD_join_34 : decode cMD_join 34 = .ok (.iload 4, 2) := by decide +kernel
theorem dMD_join_36 : decode cMD_join 36 = .ok (.iconst 3, 1) := by decide +kernel
theorem dMD_join_37 : decode cMD_join 37 = .ok (.invokevirtual 112, 3) := by decide +kernel
theorem dMD_join_40 : decode cMD_join 40 = .ok (.ifCond .ne 15, 3) := by decide +kernel
theorem dMD_join_43 : decode cMD_join 43 = .ok (.aload_n 0, 1) := by decide +kernel
theorem dMD_join_44 : decode cMD_join 44 = .ok (.iload 5, 2) := by decide +kernel
theorem dMD_join_46 : decode cMD_join 46 = .ok (.sipush 216, 3) := by decide +kernel
theorem dMD_join_49 : decode cMD_join 49 = .ok (.invokevirtual 112, 3) := by decide +kernel
theorem dMD_join_52 : decode cMD_join 52 = .ok (.ifCond .eq 5, 3) := by decide +kernel
theorem dMD_join_55 : decode cMD_join 55 = .ok (.iconst (-1), 1) := by decide +kernel
theorem dMD_join_56 : decode cMD_join 56 = .ok (.ireturn, 1) := by decide +kernel
theorem dMD_join_57 : decode cMD_join 57 = .ok (.aload_n 0, 1) := by decide +kernel
theorem dMD_join_58 : decode cMD_join 58 = .ok (.iconst 3, 1) := by decide +kernel
theorem dMD_join_59 : decode cMD_join 59 = .ok (.iload_n 1, 1) := by decide +kernel
theorem dMD_join_60 : decode cMD_join 60 = .ok (.iload_n 2, 1) := by decide +kernel
theorem dMD_join_61 : decode cMD_join 61 = .ok (.iload_n 3, 1) := by decide +kernel
theorem dMD_join_62 : decode cMD_join 62 = .ok (.iload 4, 2) := by decide +kernel
theorem dMD_join_64 : decode cMD_join 64 = .ok (.iload 5, 2) := by decide +kernel
theorem dMD_join_66 : decode cMD_join 66 = .ok (.invokevirtual 115, 3) := by decide +kernel
theorem dMD_join_69 : decode cMD_join 69 = .ok (.ireturn, 1) := by decide +kernel
theorem dMD_combine_0 : decode cMD_combine 0 = .ok (.aload_n 0, 1) := by decide +kernel
theorem dMD_combine_1 : decode cMD_combine 1 = .ok (.iload_n 1, 1) := by decide +kernel
theorem dMD_combine_2 : decode cMD_combine 2 = .ok (.aload_n 0, 1) := by decide +kernel
theorem dMD_combine_3 : decode cMD_combine 3 = .ok (.getfield 106, 3) := by decide +kernel
theorem dMD_combine_6 : decode cMD_combine 6 = .ok (.invokevirtual 112, 3) := by decide +kernel
theorem dMD_combine_9 : decode cMD_combine 9 = .ok (.ifCond .ne 24, 3) := by decide +kernel
theorem dMD_combine_12 : decode cMD_combine 12 = .ok (.aload_n 0, 1) := by decide +kernel
theorem dMD_combine_13 : decode cMD_combine 13 = .ok (.iload_n 2, 1) := by decide +kernel
theorem dMD_combine_14 : decode cMD_combine 14 = .ok (.aload_n 0, 1) := by decide +kernel
theorem dMD_combine_15 : decode cMD_combine 15 = .ok (.getfield 106, 3) := by decide +kernel
theorem dMD_combine_18 : decode cMD_combine 18 = .ok (.invokevirtual 112, 3) := by decide +kernel
theorem dMD_combine_21 : decode cMD_combine 21 = .ok (.ifCond .ne 12, 3) := by decide +kernel
theorem dMD_combine_24 : decode cMD_combine 24 = .ok (.aload_n 0, 1) := by decide +kernel
theorem dMD_combine_25 : decode cMD_combine 25 = .ok (.iload_n 3, 1) := by decide +kernel
theorem dMD_combine_26 : decode cMD_combine 26 = .ok (.iconst 2, 1) := by decide +kernel
theorem dMD_combine_27 : decode cMD_combine 27 = .ok (.invokevirtual 112, 3) := by decide +kernel
theorem dMD_combine_30 : decode cMD_combine 30 = .ok (.ifCond .eq 5, 3) := by decide +kernel
theorem dMD_combine_33 : decode cMD_combine 33 = .ok (.iconst (-1), 1) := by decide +kernel
theorem dMD_combine_34 : decode cMD_combine 34 = .ok (.ireturn, 1) := by decide +kernel
theorem dMD_combine_35 : decode cMD_combine 35 = .ok (.aload_n 0, 1) := by decide +kernel
theorem dMD_combine_36 : decode cMD_combine 36 = .ok (.iconst 4, 1) := by decide +kernel
theorem dMD_combine_37 : decode cMD_combine 37 = .ok (.iload_n 1, 1) := by decide +kernel
theorem dMD_combine_38 : decode cMD_combine 38 = .ok (.iload_n 2, 1) := by decide +kernel
theorem dMD_combine_39 : decode cMD_combine 39 = .ok (.iload_n 3, 1) := by decide +kernel
theorem dMD_combine_40 : decode cMD_combine 40 = .ok (.iconst 0, 1) := by decide +kernel
theorem dMD_combine_41 : decode cMD_combine 41 = .ok (.iconst 0, 1) := by decide +kernel
theorem dMD_combine_42 : decode cMD_combine 42 = .ok (.invokevirtual 115, 3) := by decide +kernel
theorem dMD_combine_45 : decode cMD_combine 45 = .ok (.ireturn, 1) := by decide +kernel
theorem dMD_distinct_0 : decode cMD_distinct 0 = .ok (.aload_n 0, 1) := by decide +kernel
theorem dMD_distinct_1 : decode cMD_distinct 1 = .ok (.iload_n 1, 1) := by decide +kernel
theorem dMD_distinct_2 : decode cMD_distinct 2 = .ok (.aload_n 0, 1) := by decide +kernel
theorem dMD_distinct_3 : decode cMD_distinct 3 = .ok (.getfield 106, 3) := by decide +kernel
theorem dMD_distinct_6 : decode cMD_distinct 6 = .ok (.invokevirtual 112, 3) := by decide +kernel
theorem dMD_distinct_9 : decode cMD_distinct 9 = .ok (.ifCond .eq 7, 3) := by decide +kernel
theorem dMD_distinct_12 : decode cMD_distinct 12 = .ok (.iconst (-1), 1) := by decide +kernel
theorem dMD_distinct_13 : decode cMD_distinct 13 = .ok (.goto 13, 3) := by decide +kernel
theorem dMD_distinct_16 : decode cMD_distinct 16 = .ok (.aload_n 0, 1) := by decide +kernel
theorem dMD_distinct_17 : decode cMD_distinct 17 = .ok (.iconst 5, 1) := by decide +kernel
theorem dMD_distinct_18 : decode cMD_distinct 18 = .ok (.iload_n 1, 1) := by decide +kernel
theorem dMD_distinct_19 : decode cMD_distinct 19 = .ok (.iconst 0, 1) := by decide +kernel
theorem dMD_distinct_20 : decode cMD_distinct 20 = .ok (.iconst 0, 1) := by decide +kernel
theorem dMD_distinct_21 : decode cMD_distinct 21 = .ok (.iconst 0, 1) := by decide +kernel
theorem dMD_distinct_22 : decode cMD_distinct 22 = .ok (.iconst 0, 1) := by decide +kernel
theorem dMD_distinct_23 : decode cMD_distinct 23 = .ok (.invokevirtual 115, 3) := by decide +kernel
theorem dMD_distinct_26 : decode cMD_distinct 26 = .ok (.ireturn, 1) := by decide +kernel
theorem dMD_group_0 : decode cMD_group 0 = .ok (.aload_n 0, 1) := by decide +kernel
theorem dMD_group_1 : decode cMD_group 1 = .ok (.iload_n 1, 1) := by decide +kernel
theorem dMD_group_2 : decode cMD_group 2 = .ok (.aload_n 0, 1) := by decide +kernel
theorem dMD_group_3 : decode cMD_group 3 = .ok (.getfield 106, 3) := by decide +kernel
theorem dMD_group_6 : decode cMD_group 6 = .ok (.invokevirtual 112, 3) := by decide +kernel
theorem dMD_group_9 : decode cMD_group 9 = .ok (.ifCond .ne 31, 3) := by decide +kernel
theorem dMD_group_12 : decode cMD_group 12 = .ok (.aload_n 0, 1) := by decide +kernel
theorem dMD_group_13 : decode cMD_group 13 = .ok (.iload_n 2, 1) := by decide +kernel
theorem dMD_group_14 : decode cMD_group 14 = .ok (.iconst 3, 1) := by decide +kernel
theorem dMD_group_15 : decode cMD_group 15 = .ok (.invokevirtual 112, 3) := by decide +kernel
theorem dMD_group_18 : decode cMD_group 18 = .ok (.ifCond .ne 22, 3) := by decide +kernel
theorem dMD_group_21 : decode cMD_group 21 = .ok (.aload_n 0, 1) := by decide +kernel
theorem dMD_group_22 : decode cMD_group 22 = .ok (.iload_n 3, 1) := by decide +kernel
theorem dMD_group_23 : decode cMD_group 23 = .ok (.iconst 3, 1) := by decide +kernel
theorem dMD_group_24 : decode cMD_group 24 = .ok (.invokevirtual 112, 3) := by decide +kernel
theorem dMD_group_27 : decode cMD_group 27 = .ok (.ifCond .ne 13, 3) := by decide +kernel
theorem dMD_group_30 : decode cMD_group 30 = .ok (.aload_n 0, 1) := by decide +kernel
theorem dMD_group_31 : decode cMD_group 31 = .ok (.iload 4, 2) := by decide +kernel
theorem dMD_group_33 : decode cMD_group 33 = .ok (.iconst 4, 1) := by decide +kernel
theorem dMD_group_34 : decode cMD_group 34 = .ok (.invokevirtual 112, 3) := by decide +kernel
theorem dMD_group_37 : decode cMD_group 37 = .ok (.ifCond .eq 5, 3) := by decide +kernel
theorem dMD_group_40 : decode cMD_group 40 = .ok (.iconst (-1), 1) := by decide +kernel
theorem dMD_group_41 : decode cMD_group 41 = .ok (.ireturn, 1) := by decide +kernel
theorem dMD_group_42 : decode cMD_group 42 = .ok (.aload_n 0, 1) := by decide +kernel
theorem dMD_group_43 : decode cMD_group 43 = .ok (.bipush 6, 2) := by decide +kernel
theorem dMD_group_45 : decode cMD_group 45 = .ok (.iload_n 1, 1) := by decide +kernel
theorem dMD_group_46 : decode cMD_group 46 = .ok (.iload_n 2, 1) := by decide +kernel
theorem dMD_group_47 : decode cMD_group 47 = .ok (.iload_n 3, 1) := by decide +kernel
theorem dMD_group_48 : decode cMD_group 48 = .ok (.iload 4, 2) := by decide +kernel
theorem dMD_group_50 : decode cMD_group 50 = .ok (.iconst 0, 1) := by decide +kernel
theorem dMD_group_51 : decode cMD_group 51 = .ok (.invokevirtual 115, 3) := by decide +kernel
theorem dMD_group_54 : decode cMD_group 54 = .ok (.ireturn, 1) := by decide +kernel
theorem dMD_change_0 : decode cMD_change 0 = .ok (.aload_n 0, 1) := by decide +kernel
theorem dMD_change_1 : decode cMD_change 1 = .ok (.iload_n 1, 1) := by decide +kernel
theorem dMD_change_2 : decode cMD_change 2 = .ok (.iconst 3, 1) := by decide +kernel
theorem dMD_change_3 : decode cMD_change 3 = .ok (.invokevirtual 112, 3) := by decide +kernel
theorem dMD_change_6 : decode cMD_change 6 = .ok (.ifCond .ne 21, 3) := by decide +kernel
theorem dMD_change_9 : decode cMD_change 9 = .ok (.iload 5, 2) := by decide +kernel
theorem dMD_change_11 : decode cMD_change 11 = .ok (.bipush (-3), 2) := by decide +kernel
theorem dMD_change_13 : decode cMD_change 13 = .ok (.if_icmp .lt 14, 3) := by decide +kernel
theorem dMD_change_16 : decode cMD_change 16 = .ok (.iload 5, 2) := by decide +kernel
theorem dMD_change_18 : decode cMD_change 18 = .ok (.iconst 3, 1) := by decide +kernel
theorem dMD_change_19 : decode cMD_change 19 = .ok (.if_icmp .gt 8, 3) := by decide +kernel
theorem dMD_change_22 : decode cMD_change 22 = .ok (.iload 5, 2) := by decide +kernel
theorem dMD_change_24 : decode cMD_change 24 = .ok (.ifCond .ne 5, 3) := by decide +kernel
theorem dMD_change_27 : decode cMD_change 27 = .ok (.iconst (-1), 1) := by decide +kernel
theorem dMD_change_28 : decode cMD_change 28 = .ok (.ireturn, 1) := by decide +kernel
theorem dMD_change_29 : decode cMD_change 29 = .ok (.aload_n 0, 1) := by decide +kernel
theorem dMD_change_30 : decode cMD_change 30 = .ok (.getfield 119, 3) := by decide +kernel
theorem dMD_change_33 : decode cMD_change 33 = .ok (.bipush 12, 2) := by decide +kernel
theorem dMD_change_35 : decode cMD_change 35 = .ok (.if_icmp .ne 6, 3) := by decide +kernel
theorem dMD_change_38 : decode cMD_change 38 = .ok (.bipush (-2), 2) := by decide +kernel
theorem dMD_change_40 : decode cMD_change 40 = .ok (.ireturn, 1) := by decide +kernel
theorem dMD_change_41 : decode cMD_change 41 = .ok (.aload_n 0, 1) := by decide +kernel
theorem dMD_change_42 : decode cMD_change 42 = .ok (.getfield 47, 3) := by decide +kernel
theorem dMD_change_45 : decode cMD_change 45 = .ok (.aload_n 0, 1) := by decide +kernel
theorem dMD_change_46 : decode cMD_change 46 = .ok (.getfield 119, 3) := by decide +kernel
theorem dMD_change_49 : decode cMD_change 49 = .ok (.iload_n 1, 1) := by decide +kernel
theorem dMD_change_50 : decode cMD_change 50 = .ok (.iastore, 1) := by decide +kernel
theorem dMD_change_51 : decode cMD_change 51 = .ok (.aload_n 0, 1) := by decide +kernel
theorem dMD_change_52 : decode cMD_change 52 = .ok (.getfield 50, 3) := by decide +kernel
theorem dMD_change_55 : decode cMD_change 55 = .ok (.aload_n 0, 1) := by decide +kernel
theorem dMD_change_56 : decode cMD_change 56 = .ok (.getfield 119, 3) := by decide +kernel
theorem dMD_change_59 : decode cMD_change 59 = .ok (.iload_n 2, 1) := by decide +kernel
theorem dMD_change_60 : decode cMD_change 60 = .ok (.iastore, 1) := by decide +kernel
theorem dMD_change_61 : decode cMD_change 61 = .ok (.aload_n 0, 1) := by decide +kernel
theorem dMD_change_62 : decode cMD_change 62 = .ok (.getfield 53, 3) := by decide +kernel
theorem dMD_change_65 : decode cMD_change 65 = .ok (.aload_n 0, 1) := by decide +kernel
theorem dMD_change_66 : decode cMD_change 66 = .ok (.getfield 119, 3) := by decide +kernel
theorem dMD_change_69 : decode cMD_change 69 = .ok (.iload_n 3, 1) := by decide +kernel
theorem dMD_change_70 : decode cMD_change 70 = .ok (.iastore, 1) := by decide +kernel
theorem dMD_change_71 : decode cMD_change 71 = .ok (.aload_n 0, 1) := by decide +kernel
theorem dMD_change_72 : decode cMD_change 72 = .ok (.getfield 56, 3) := by decide +kernel
theorem dMD_change_75 : decode cMD_change 75 = .ok (.aload_n 0, 1) := by decide +kernel
theorem dMD_change_76 : decode cMD_change 76 = .ok (.getfield 119, 3) := by decide +kernel
theorem dMD_change_79 : decode cMD_change 79 = .ok (.iload 4, 2) := by decide +kernel
theorem dMD_change_81 : decode cMD_change 81 = .ok (.iastore, 1) := by decide +kernel
theorem dMD_change_82 : decode cMD_change 82 = .ok (.aload_n 0, 1) := by decide +kernel
theorem dMD_change_83 : decode cMD_change 83 = .ok (.getfield 59, 3) := by decide +kernel
theorem dMD_change_86 : decode cMD_change 86 = .ok (.aload_n 0, 1) := by decide +kernel
theorem dMD_change_87 : decode cMD_change 87 = .ok (.getfield 119, 3) := by decide +kernel
theorem dMD_change_90 : decode cMD_change 90 = .ok (.iload 5, 2) := by decide +kernel
theorem dMD_change_92 : decode cMD_change 92 = .ok (.iastore, 1) := by decide +kernel
theorem dMD_change_93 : decode cMD_change 93 = .ok (.aload_n 0, 1) := by decide +kernel
theorem dMD_change_94 : decode cMD_change 94 = .ok (.dup, 1) := by decide +kernel
theorem dMD_change_95 : decode cMD_change 95 = .ok (.getfield 119, 3) := by decide +kernel
theorem dMD_change_98 : decode cMD_change 98 = .ok (.iconst 1, 1) := by decide +kernel
theorem dMD_change_99 : decode cMD_change 99 = .ok (.iadd, 1) := by decide +kernel
theorem dMD_change_100 : decode cMD_change 100 = .ok (.putfield 119, 3) := by decide +kernel
theorem dMD_change_103 : decode cMD_change 103 = .ok (.aload_n 0, 1) := by decide +kernel
theorem dMD_change_104 : decode cMD_change 104 = .ok (.getfield 119, 3) := by decide +kernel
theorem dMD_change_107 : decode cMD_change 107 = .ok (.ireturn, 1) := by decide +kernel
theorem dMD_step_0 : decode cMD_step 0 = .ok (.iconst 0, 1) := by decide +kernel
theorem dMD_step_1 : decode cMD_step 1 = .ok (.istore_n 1, 1) := by decide +kernel
theorem dMD_step_2 : decode cMD_step 2 = .ok (.iload_n 1, 1) := by decide +kernel
theorem dMD_step_3 : decode cMD_step 3 = .ok (.iconst 3, 1) := by decide +kernel
theorem dMD_step_4 : decode cMD_step 4 = .ok (.if_icmp .ge 43, 3) := by decide +kernel
theorem dMD_step_7 : decode cMD_step 7 = .ok (.aload_n 0, 1) := by decide +kernel
theorem dMD_step_8 : decode cMD_step 8 = .ok (.iload_n 1, 1) := by decide +kernel
theorem dMD_step_9 : decode cMD_step 9 = .ok (.invokevirtual 126, 3) := by decide +kernel
theorem dMD_step_12 : decode cMD_step 12 = .ok (.iconst 0, 1) := by decide +kernel
theorem dMD_step_13 : decode cMD_step 13 = .ok (.istore_n 2, 1) := by decide +kernel
theorem dMD_step_14 : decode cMD_step 14 = .ok (.iload_n 2, 1) := by decide +kernel
theorem dMD_step_15 : decode cMD_step 15 = .ok (.aload_n 0, 1) := by decide +kernel
theorem dMD_step_16 : decode cMD_step 16 = .ok (.getfield 62, 3) := by decide +kernel
theorem dMD_step_19 : decode cMD_step 19 = .ok (.if_icmp .ge 22, 3) := by decide +kernel
theorem dMD_step_22 : decode cMD_step 22 = .ok (.aload_n 0, 1) := by decide +kernel
theorem dMD_step_23 : decode cMD_step 23 = .ok (.getfield 35, 3) := by decide +kernel
theorem dMD_step_26 : decode cMD_step 26 = .ok (.iload_n 2, 1) := by decide +kernel
theorem dMD_step_27 : decode cMD_step 27 = .ok (.laload, 1) := by decide +kernel
theorem dMD_step_28 : decode cMD_step 28 = .ok (.lconst 0, 1) := by decide +kernel
theorem dMD_step_29 : decode cMD_step 29 = .ok (.lcmp, 1) := by decide +kernel
theorem dMD_step_30 : decode cMD_step 30 = .ok (.ifCond .ge 5, 3) := by decide +kernel
theorem dMD_step_33 : decode cMD_step 33 = .ok (.iconst (-1), 1) := by decide +kernel
theorem dMD_step_34 : decode cMD_step 34 = .ok (.ireturn, 1) := by decide +kernel
theorem dMD_step_35 : decode cMD_step 35 = .ok (.iinc 2 1, 3) := by decide +kernel
theorem dMD_step_38 : decode cMD_step 38 = .ok (.goto (-24), 3) := by decide +kernel
theorem dMD_step_41 : decode cMD_step 41 = .ok (.iinc 1 1, 3) := by decide +kernel
theorem dMD_step_44 : decode cMD_step 44 = .ok (.goto (-42), 3) := by decide +kernel
theorem dMD_step_47 : decode cMD_step 47 = .ok (.iconst 0, 1) := by decide +kernel
theorem dMD_step_48 : decode cMD_step 48 = .ok (.istore_n 1, 1) := by decide +kernel
theorem dMD_step_49 : decode cMD_step 49 = .ok (.iload_n 1, 1) := by decide +kernel
theorem dMD_step_50 : decode cMD_step 50 = .ok (.iconst 3, 1) := by decide +kernel
theorem dMD_step_51 : decode cMD_step 51 = .ok (.if_icmp .ge 30, 3) := by decide +kernel
theorem dMD_step_54 : decode cMD_step 54 = .ok (.aload_n 0, 1) := by decide +kernel
theorem dMD_step_55 : decode cMD_step 55 = .ok (.iload_n 1, 1) := by decide +kernel
theorem dMD_step_56 : decode cMD_step 56 = .ok (.invokevirtual 126, 3) := by decide +kernel
theorem dMD_step_59 : decode cMD_step 59 = .ok (.aload_n 0, 1) := by decide +kernel
theorem dMD_step_60 : decode cMD_step 60 = .ok (.bipush 13, 2) := by decide +kernel
theorem dMD_step_62 : decode cMD_step 62 = .ok (.iload_n 1, 1) := by decide +kernel
theorem dMD_step_63 : decode cMD_step 63 = .ok (.iadd, 1) := by decide +kernel
theorem dMD_step_64 : decode cMD_step 64 = .ok (.bipush 12, 2) := by decide +kernel
theorem dMD_step_66 : decode cMD_step 66 = .ok (.invokevirtual 103, 3) := by decide +kernel
theorem dMD_step_69 : decode cMD_step 69 = .ok (.ifCond .ne 6, 3) := by decide +kernel
theorem dMD_step_72 : decode cMD_step 72 = .ok (.bipush (-2), 2) := by decide +kernel
theorem dMD_step_74 : decode cMD_step 74 = .ok (.ireturn, 1) := by decide +kernel
theorem dMD_step_75 : decode cMD_step 75 = .ok (.iinc 1 1, 3) := by decide +kernel
theorem dMD_step_78 : decode cMD_step 78 = .ok (.goto (-29), 3) := by decide +kernel
theorem dMD_step_81 : decode cMD_step 81 = .ok (.iconst 0, 1) := by decide +kernel
theorem dMD_step_82 : decode cMD_step 82 = .ok (.istore_n 1, 1) := by decide +kernel
theorem dMD_step_83 : decode cMD_step 83 = .ok (.iload_n 1, 1) := by decide +kernel
theorem dMD_step_84 : decode cMD_step 84 = .ok (.aload_n 0, 1) := by decide +kernel
theorem dMD_step_85 : decode cMD_step 85 = .ok (.getfield 106, 3) := by decide +kernel
theorem dMD_step_88 : decode cMD_step 88 = .ok (.if_icmp .ge 22, 3) := by decide +kernel
theorem dMD_step_91 : decode cMD_step 91 = .ok (.aload_n 0, 1) := by decide +kernel
theorem dMD_step_92 : decode cMD_step 92 = .ok (.iload_n 1, 1) := by decide +kernel
theorem dMD_step_93 : decode cMD_step 93 = .ok (.bipush 13, 2) := by decide +kernel
theorem dMD_step_95 : decode cMD_step 95 = .ok (.invokevirtual 109, 3) := by decide +kernel
theorem dMD_step_98 : decode cMD_step 98 = .ok (.ifCond .ne 6, 3) := by decide +kernel
theorem dMD_step_101 : decode cMD_step 101 = .ok (.bipush (-2), 2) := by decide +kernel
theorem dMD_step_103 : decode cMD_step 103 = .ok (.ireturn, 1) := by decide +kernel
theorem dMD_step_104 : decode cMD_step 104 = .ok (.iinc 1 1, 3) := by decide +kernel
theorem dMD_step_107 : decode cMD_step 107 = .ok (.goto (-24), 3) := by decide +kernel
theorem dMD_step_110 : decode cMD_step 110 = .ok (.iconst 0, 1) := by decide +kernel
theorem dMD_step_111 : decode cMD_step 111 = .ok (.istore_n 1, 1) := by decide +kernel
theorem dMD_step_112 : decode cMD_step 112 = .ok (.iconst 0, 1) := by decide +kernel
theorem dMD_step_113 : decode cMD_step 113 = .ok (.istore_n 2, 1) := by decide +kernel
theorem dMD_step_114 : decode cMD_step 114 = .ok (.iload_n 2, 1) := by decide +kernel
theorem dMD_step_115 : decode cMD_step 115 = .ok (.aload_n 0, 1) := by decide +kernel
theorem dMD_step_116 : decode cMD_step 116 = .ok (.getfield 106, 3) := by decide +kernel
theorem dMD_step_119 : decode cMD_step 119 = .ok (.if_icmp .ge 29, 3) := by decide +kernel
theorem dMD_step_122 : decode cMD_step 122 = .ok (.aload_n 0, 1) := by decide +kernel
theorem dMD_step_123 : decode cMD_step 123 = .ok (.getfield 44, 3) := by decide +kernel
theorem dMD_step_126 : decode cMD_step 126 = .ok (.iload_n 2, 1) := by decide +kernel
theorem dMD_step_127 : decode cMD_step 127 = .ok (.aload_n 0, 1) := by decide +kernel
theorem dMD_step_128 : decode cMD_step 128 = .ok (.iload_n 2, 1) := by decide +kernel
theorem dMD_step_129 : decode cMD_step 129 = .ok (.invokevirtual 130, 3) := by decide +kernel
theorem dMD_step_132 : decode cMD_step 132 = .ok (.iastore, 1) := by decide +kernel
theorem dMD_step_133 : decode cMD_step 133 = .ok (.iload_n 1, 1) := by decide +kernel
theorem dMD_step_134 : decode cMD_step 134 = .ok (.aload_n 0, 1) := by decide +kernel
theorem dMD_step_135 : decode cMD_step 135 = .ok (.getfield 44, 3) := by decide +kernel
theorem dMD_step_138 : decode cMD_step 138 = .ok (.iload_n 2, 1) := by decide +kernel
theorem dMD_step_139 : decode cMD_step 139 = .ok (.iaload, 1) := by decide +kernel
theorem dMD_step_140 : decode cMD_step 140 = .ok (.iadd, 1) := by decide +kernel
theorem dMD_step_141 : decode cMD_step 141 = .ok (.istore_n 1, 1) := by decide +kernel
theorem dMD_step_142 : decode cMD_step 142 = .ok (.iinc 2 1, 3) := by decide +kernel
theorem dMD_step_145 : decode cMD_step 145 = .ok (.goto (-31), 3) := by decide +kernel
theorem dMD_step_148 : decode cMD_step 148 = .ok (.iconst 0, 1) := by decide +kernel
theorem dMD_step_149 : decode cMD_step 149 = .ok (.istore_n 2, 1) := by decide +kernel
theorem dMD_step_150 : decode cMD_step 150 = .ok (.iload_n 2, 1) := by decide +kernel
theorem dMD_step_151 : decode cMD_step 151 = .ok (.bipush 13, 2) := by decide +kernel
theorem dMD_step_153 : decode cMD_step 153 = .ok (.if_icmp .ge 14, 3) := by decide +kernel
theorem dMD_step_156 : decode cMD_step 156 = .ok (.aload_n 0, 1) := by decide +kernel
theorem dMD_step_157 : decode cMD_step 157 = .ok (.iload_n 2, 1) := by decide +kernel
theorem dMD_step_158 : decode cMD_step 158 = .ok (.invokevirtual 134, 3) := by decide +kernel
theorem dMD_step_161 : decode cMD_step 161 = .ok (.iinc 2 1, 3) := by decide +kernel
theorem dMD_step_164 : decode cMD_step 164 = .ok (.goto (-14), 3) := by decide +kernel
theorem dMD_step_167 : decode cMD_step 167 = .ok (.aload_n 0, 1) := by decide +kernel
theorem dMD_step_168 : decode cMD_step 168 = .ok (.iconst 0, 1) := by decide +kernel
theorem dMD_step_169 : decode cMD_step 169 = .ok (.putfield 119, 3) := by decide +kernel
theorem dMD_step_172 : decode cMD_step 172 = .ok (.iload_n 1, 1) := by decide +kernel
theorem dMD_step_173 : decode cMD_step 173 = .ok (.ireturn, 1) := by decide +kernel
theorem dMD_workTable_0 : decode cMD_workTable 0 = .ok (.aload_n 0, 1) := by decide +kernel
theorem dMD_workTable_1 : decode cMD_workTable 1 = .ok (.iconst 0, 1) := by decide +kernel
theorem dMD_workTable_2 : decode cMD_workTable 2 = .ok (.putfield 62, 3) := by decide +kernel
theorem dMD_workTable_5 : decode cMD_workTable 5 = .ok (.iload_n 1, 1) := by decide +kernel
theorem dMD_workTable_6 : decode cMD_workTable 6 = .ok (.bipush 24, 2) := by decide +kernel
theorem dMD_workTable_8 : decode cMD_workTable 8 = .ok (.imul, 1) := by decide +kernel
theorem dMD_workTable_9 : decode cMD_workTable 9 = .ok (.istore_n 2, 1) := by decide +kernel
theorem dMD_workTable_10 : decode cMD_workTable 10 = .ok (.iload_n 2, 1) := by decide +kernel
theorem dMD_workTable_11 : decode cMD_workTable 11 = .ok (.iload_n 1, 1) := by decide +kernel
theorem dMD_workTable_12 : decode cMD_workTable 12 = .ok (.bipush 24, 2) := by decide +kernel
theorem dMD_workTable_14 : decode cMD_workTable 14 = .ok (.imul, 1) := by decide +kernel
theorem dMD_workTable_15 : decode cMD_workTable 15 = .ok (.aload_n 0, 1) := by decide +kernel
theorem dMD_workTable_16 : decode cMD_workTable 16 = .ok (.getfield 23, 3) := by decide +kernel
theorem dMD_workTable_19 : decode cMD_workTable 19 = .ok (.iload_n 1, 1) := by decide +kernel
theorem dMD_workTable_20 : decode cMD_workTable 20 = .ok (.iaload, 1) := by decide +kernel
theorem dMD_workTable_21 : decode cMD_workTable 21 = .ok (.iadd, 1) := by decide +kernel
theorem dMD_workTable_22 : decode cMD_workTable 22 = .ok (.if_icmp .ge 37, 3) := by decide +kernel
theorem dMD_workTable_25 : decode cMD_workTable 25 = .ok (.aload_n 0, 1) := by decide +kernel
theorem dMD_workTable_26 : decode cMD_workTable 26 = .ok (.aload_n 0, 1) := by decide +kernel
theorem dMD_workTable_27 : decode cMD_workTable 27 = .ok (.getfield 7, 3) := by decide +kernel
theorem dMD_workTable_30 : decode cMD_workTable 30 = .ok (.iload_n 2, 1) := by decide +kernel
theorem dMD_workTable_31 : decode cMD_workTable 31 = .ok (.iaload, 1) := by decide +kernel
theorem dMD_workTable_32 : decode cMD_workTable 32 = .ok (.aload_n 0, 1) := by decide +kernel
theorem dMD_workTable_33 : decode cMD_workTable 33 = .ok (.getfield 13, 3) := by decide +kernel
theorem dMD_workTable_36 : decode cMD_workTable 36 = .ok (.iload_n 2, 1) := by decide +kernel
theorem dMD_workTable_37 : decode cMD_workTable 37 = .ok (.iaload, 1) := by decide +kernel
theorem dMD_workTable_38 : decode cMD_workTable 38 = .ok (.aload_n 0, 1) := by decide +kernel
theorem dMD_workTable_39 : decode cMD_workTable 39 = .ok (.getfield 16, 3) := by decide +kernel
theorem dMD_workTable_42 : decode cMD_workTable 42 = .ok (.iload_n 2, 1) := by decide +kernel
theorem dMD_workTable_43 : decode cMD_workTable 43 = .ok (.iaload, 1) := by decide +kernel
theorem dMD_workTable_44 : decode cMD_workTable 44 = .ok (.aload_n 0, 1) := by decide +kernel
theorem dMD_workTable_45 : decode cMD_workTable 45 = .ok (.getfield 19, 3) := by decide +kernel
theorem dMD_workTable_48 : decode cMD_workTable 48 = .ok (.iload_n 2, 1) := by decide +kernel
theorem dMD_workTable_49 : decode cMD_workTable 49 = .ok (.laload, 1) := by decide +kernel
theorem dMD_workTable_50 : decode cMD_workTable 50 = .ok (.invokevirtual 82, 3) := by decide +kernel
theorem dMD_workTable_53 : decode cMD_workTable 53 = .ok (.iinc 2 1, 3) := by decide +kernel
theorem dMD_workTable_56 : decode cMD_workTable 56 = .ok (.goto (-46), 3) := by decide +kernel
theorem dMD_workTable_59 : decode cMD_workTable 59 = .ok (.iconst 0, 1) := by decide +kernel
theorem dMD_workTable_60 : decode cMD_workTable 60 = .ok (.istore_n 2, 1) := by decide +kernel
theorem dMD_workTable_61 : decode cMD_workTable 61 = .ok (.iload_n 2, 1) := by decide +kernel
theorem dMD_workTable_62 : decode cMD_workTable 62 = .ok (.aload_n 0, 1) := by decide +kernel
theorem dMD_workTable_63 : decode cMD_workTable 63 = .ok (.getfield 119, 3) := by decide +kernel
theorem dMD_workTable_66 : decode cMD_workTable 66 = .ok (.if_icmp .ge 48, 3) := by decide +kernel
theorem dMD_workTable_69 : decode cMD_workTable 69 = .ok (.aload_n 0, 1) := by decide +kernel
theorem dMD_workTable_70 : decode cMD_workTable 70 = .ok (.getfield 47, 3) := by decide +kernel
theorem dMD_workTable_73 : decode cMD_workTable 73 = .ok (.iload_n 2, 1) := by decide +kernel
theorem dMD_workTable_74 : decode cMD_workTable 74 = .ok (.iaload, 1) := by decide +kernel
theorem dMD_workTable_75 : decode cMD_workTable 75 = .ok (.iload_n 1, 1) := by decide +kernel
theorem dMD_workTable_76 : decode cMD_workTable 76 = .ok (.if_icmp .ne 32, 3) := by decide +kernel
theorem dMD_workTable_79 : decode cMD_workTable 79 = .ok (.aload_n 0, 1) := by decide +kernel
theorem dMD_workTable_80 : decode cMD_workTable 80 = .ok (.aload_n 0, 1) := by decide +kernel
theorem dMD_workTable_81 : decode cMD_workTable 81 = .ok (.getfield 50, 3) := by decide +kernel
theorem dMD_workTable_84 : decode cMD_workTable 84 = .ok (.iload_n 2, 1) := by decide +kernel
theorem dMD_workTable_85 : decode cMD_workTable 85 = .ok (.iaload, 1) := by decide +kernel
theorem dMD_workTable_86 : decode cMD_workTable 86 = .ok (.aload_n 0, 1) := by decide +kernel
theorem dMD_workTable_87 : decode cMD_workTable 87 = .ok (.getfield 53, 3) := by decide +kernel
theorem dMD_workTable_90 : decode cMD_workTable 90 = .ok (.iload_n 2, 1) := by decide +kernel
theorem dMD_workTable_91 : decode cMD_workTable 91 = .ok (.iaload, 1) := by decide +kernel
theorem dMD_workTable_92 : decode cMD_workTable 92 = .ok (.aload_n 0, 1) := by decide +kernel
theorem dMD_workTable_93 : decode cMD_workTable 93 = .ok (.getfield 56, 3) := by decide +kernel
theorem dMD_workTable_96 : decode cMD_workTable 96 = .ok (.iload_n 2, 1) := by decide +kernel
theorem dMD_workTable_97 : decode cMD_workTable 97 = .ok (.iaload, 1) := by decide +kernel
theorem dMD_workTable_98 : decode cMD_workTable 98 = .ok (.aload_n 0, 1) := by decide +kernel
theorem dMD_workTable_99 : decode cMD_workTable 99 = .ok (.getfield 59, 3) := by decide +kernel
theorem dMD_workTable_102 : decode cMD_workTable 102 = .ok (.iload_n 2, 1) := by decide +kernel
theorem dMD_workTable_103 : decode cMD_workTable 103 = .ok (.iaload, 1) := by decide +kernel
theorem dMD_workTable_104 : decode cMD_workTable 104 = .ok (.i2l, 1) := by decide +kernel
theorem dMD_workTable_105 : decode cMD_workTable 105 = .ok (.invokevirtual 82, 3) := by decide +kernel
theorem dMD_workTable_108 : decode cMD_workTable 108 = .ok (.iinc 2 1, 3) := by decide +kernel
theorem dMD_workTable_111 : decode cMD_workTable 111 = .ok (.goto (-50), 3) := by decide +kernel
theorem dMD_workTable_114 : decode cMD_workTable 114 = .ok (.return_, 1) := by decide +kernel
theorem dMD_differing_0 : decode cMD_differing 0 = .ok (.iconst 3, 1) := by decide +kernel
theorem dMD_differing_1 : decode cMD_differing 1 = .ok (.iload_n 1, 1) := by decide +kernel
theorem dMD_differing_2 : decode cMD_differing 2 = .ok (.iadd, 1) := by decide +kernel
theorem dMD_differing_3 : decode cMD_differing 3 = .ok (.istore_n 2, 1) := by decide +kernel
theorem dMD_differing_4 : decode cMD_differing 4 = .ok (.bipush 16, 2) := by decide +kernel
theorem dMD_differing_6 : decode cMD_differing 6 = .ok (.iload_n 1, 1) := by decide +kernel
theorem dMD_differing_7 : decode cMD_differing 7 = .ok (.iadd, 1) := by decide +kernel
theorem dMD_differing_8 : decode cMD_differing 8 = .ok (.istore_n 3, 1) := by decide +kernel
theorem dMD_differing_9 : decode cMD_differing 9 = .ok (.iconst 0, 1) := by decide +kernel
theorem dMD_differing_10 : decode cMD_differing 10 = .ok (.istore 4, 2) := by decide +kernel
theorem dMD_differing_12 : decode cMD_differing 12 = .ok (.iload_n 2, 1) := by decide +kernel
theorem dMD_differing_13 : decode cMD_differing 13 = .ok (.bipush 24, 2) := by decide +kernel
theorem dMD_differing_15 : decode cMD_differing 15 = .ok (.imul, 1) := by decide +kernel
theorem dMD_differing_16 : decode cMD_differing 16 = .ok (.istore 5, 2) := by decide +kernel
theorem dMD_differing_18 : decode cMD_differing 18 = .ok (.iload 5, 2) := by decide +kernel
theorem dMD_differing_20 : decode cMD_differing 20 = .ok (.iload_n 2, 1) := by decide +kernel
theorem dMD_differing_21 : decode cMD_differing 21 = .ok (.bipush 24, 2) := by decide +kernel
theorem dMD_differing_23 : decode cMD_differing 23 = .ok (.imul, 1) := by decide +kernel
theorem dMD_differing_24 : decode cMD_differing 24 = .ok (.aload_n 0, 1) := by decide +kernel
theorem dMD_differing_25 : decode cMD_differing 25 = .ok (.getfield 23, 3) := by decide +kernel
theorem dMD_differing_28 : decode cMD_differing 28 = .ok (.iload_n 2, 1) := by decide +kernel
theorem dMD_differing_29 : decode cMD_differing 29 = .ok (.iaload, 1) := by decide +kernel
theorem dMD_differing_30 : decode cMD_differing 30 = .ok (.iadd, 1) := by decide +kernel
theorem dMD_differing_31 : decode cMD_differing 31 = .ok (.if_icmp .ge 49, 3) := by decide +kernel
theorem dMD_differing_34 : decode cMD_differing 34 = .ok (.aload_n 0, 1) := by decide +kernel
theorem dMD_differing_35 : decode cMD_differing 35 = .ok (.iload_n 3, 1) := by decide +kernel
theorem dMD_differing_36 : decode cMD_differing 36 = .ok (.aload_n 0, 1) := by decide +kernel
theorem dMD_differing_37 : decode cMD_differing 37 = .ok (.getfield 7, 3) := by decide +kernel
theorem dMD_differing_40 : decode cMD_differing 40 = .ok (.iload 5, 2) := by decide +kernel
theorem dMD_differing_42 : decode cMD_differing 42 = .ok (.iaload, 1) := by decide +kernel
theorem dMD_differing_43 : decode cMD_differing 43 = .ok (.aload_n 0, 1) := by decide +kernel
theorem dMD_differing_44 : decode cMD_differing 44 = .ok (.getfield 13, 3) := by decide +kernel
theorem dMD_differing_47 : decode cMD_differing 47 = .ok (.iload 5, 2) := by decide +kernel
theorem dMD_differing_49 : decode cMD_differing 49 = .ok (.iaload, 1) := by decide +kernel
theorem dMD_differing_50 : decode cMD_differing 50 = .ok (.aload_n 0, 1) := by decide +kernel
theorem dMD_differing_51 : decode cMD_differing 51 = .ok (.getfield 16, 3) := by decide +kernel
theorem dMD_differing_54 : decode cMD_differing 54 = .ok (.iload 5, 2) := by decide +kernel
theorem dMD_differing_56 : decode cMD_differing 56 = .ok (.iaload, 1) := by decide +kernel
theorem dMD_differing_57 : decode cMD_differing 57 = .ok (.invokevirtual 122, 3) := by decide +kernel
theorem dMD_differing_60 : decode cMD_differing 60 = .ok (.aload_n 0, 1) := by decide +kernel
theorem dMD_differing_61 : decode cMD_differing 61 = .ok (.getfield 19, 3) := by decide +kernel
theorem dMD_differing_64 : decode cMD_differing 64 = .ok (.iload 5, 2) := by decide +kernel
theorem dMD_differing_66 : decode cMD_differing 66 = .ok (.laload, 1) := by decide +kernel
theorem dMD_differing_67 : decode cMD_differing 67 = .ok (.lcmp, 1) := by decide +kernel
theorem dMD_differing_68 : decode cMD_differing 68 = .ok (.ifCond .eq 6, 3) := by decide +kernel
theorem dMD_differing_71 : decode cMD_differing 71 = .ok (.iinc 4 1, 3) := by decide +kernel
theorem dMD_differing_74 : decode cMD_differing 74 = .ok (.iinc 5 1, 3) := by decide +kernel
theorem dMD_differing_77 : decode cMD_differing 77 = .ok (.goto (-59), 3) := by decide +kernel
theorem dMD_differing_80 : decode cMD_differing 80 = .ok (.iload_n 3, 1) := by decide +kernel
theorem dMD_differing_81 : decode cMD_differing 81 = .ok (.bipush 24, 2) := by decide +kernel
theorem dMD_differing_83 : decode cMD_differing 83 = .ok (.imul, 1) := by decide +kernel
theorem dMD_differing_84 : decode cMD_differing 84 = .ok (.istore 5, 2) := by decide +kernel
theorem dMD_differing_86 : decode cMD_differing 86 = .ok (.iload 5, 2) := by decide +kernel
theorem dMD_differing_88 : decode cMD_differing 88 = .ok (.iload_n 3, 1) := by decide +kernel
theorem dMD_differing_89 : decode cMD_differing 89 = .ok (.bipush 24, 2) := by decide +kernel
theorem dMD_differing_91 : decode cMD_differing 91 = .ok (.imul, 1) := by decide +kernel
theorem dMD_differing_92 : decode cMD_differing 92 = .ok (.aload_n 0, 1) := by decide +kernel
theorem dMD_differing_93 : decode cMD_differing 93 = .ok (.getfield 23, 3) := by decide +kernel
theorem dMD_differing_96 : decode cMD_differing 96 = .ok (.iload_n 3, 1) := by decide +kernel
theorem dMD_differing_97 : decode cMD_differing 97 = .ok (.iaload, 1) := by decide +kernel
theorem dMD_differing_98 : decode cMD_differing 98 = .ok (.iadd, 1) := by decide +kernel
theorem dMD_differing_99 : decode cMD_differing 99 = .ok (.if_icmp .ge 43, 3) := by decide +kernel
theorem dMD_differing_102 : decode cMD_differing 102 = .ok (.aload_n 0, 1) := by decide +kernel
theorem dMD_differing_103 : decode cMD_differing 103 = .ok (.iload_n 2, 1) := by decide +kernel
theorem dMD_differing_104 : decode cMD_differing 104 = .ok (.aload_n 0, 1) := by decide +kernel
theorem dMD_differing_105 : decode cMD_differing 105 = .ok (.getfield 7, 3) := by decide +kernel
theorem dMD_differing_108 : decode cMD_differing 108 = .ok (.iload 5, 2) := by decide +kernel
theorem dMD_differing_110 : decode cMD_differing 110 = .ok (.iaload, 1) := by decide +kernel
theorem dMD_differing_111 : decode cMD_differing 111 = .ok (.aload_n 0, 1) := by decide +kernel
theorem dMD_differing_112 : decode cMD_differing 112 = .ok (.getfield 13, 3) := by decide +kernel
theorem dMD_differing_115 : decode cMD_differing 115 = .ok (.iload 5, 2) := by decide +kernel
theorem dMD_differing_117 : decode cMD_differing 117 = .ok (.iaload, 1) := by decide +kernel
theorem dMD_differing_118 : decode cMD_differing 118 = .ok (.aload_n 0, 1) := by decide +kernel
theorem dMD_differing_119 : decode cMD_differing 119 = .ok (.getfield 16, 3) := by decide +kernel
theorem dMD_differing_122 : decode cMD_differing 122 = .ok (.iload 5, 2) := by decide +kernel
theorem dMD_differing_124 : decode cMD_differing 124 = .ok (.iaload, 1) := by decide +kernel
theorem dMD_differing_125 : decode cMD_differing 125 = .ok (.invokevirtual 122, 3) := by decide +kernel
theorem dMD_differing_128 : decode cMD_differing 128 = .ok (.lconst 0, 1) := by decide +kernel
theorem dMD_differing_129 : decode cMD_differing 129 = .ok (.lcmp, 1) := by decide +kernel
theorem dMD_differing_130 : decode cMD_differing 130 = .ok (.ifCond .ne 6, 3) := by decide +kernel
theorem dMD_differing_133 : decode cMD_differing 133 = .ok (.iinc 4 1, 3) := by decide +kernel
theorem dMD_differing_136 : decode cMD_differing 136 = .ok (.iinc 5 1, 3) := by decide +kernel
theorem dMD_differing_139 : decode cMD_differing 139 = .ok (.goto (-53), 3) := by decide +kernel
theorem dMD_differing_142 : decode cMD_differing 142 = .ok (.iload 4, 2) := by decide +kernel
theorem dMD_differing_144 : decode cMD_differing 144 = .ok (.ireturn, 1) := by decide +kernel
theorem dMD_weightIn_0 : decode cMD_weightIn 0 = .ok (.iload_n 1, 1) := by decide +kernel
theorem dMD_weightIn_1 : decode cMD_weightIn 1 = .ok (.bipush 24, 2) := by decide +kernel
theorem dMD_weightIn_3 : decode cMD_weightIn 3 = .ok (.imul, 1) := by decide +kernel
theorem dMD_weightIn_4 : decode cMD_weightIn 4 = .ok (.istore 5, 2) := by decide +kernel
theorem dMD_weightIn_6 : decode cMD_weightIn 6 = .ok (.iload 5, 2) := by decide +kernel
theorem dMD_weightIn_8 : decode cMD_weightIn 8 = .ok (.iload_n 1, 1) := by decide +kernel
theorem dMD_weightIn_9 : decode cMD_weightIn 9 = .ok (.bipush 24, 2) := by decide +kernel
theorem dMD_weightIn_11 : decode cMD_weightIn 11 = .ok (.imul, 1) := by decide +kernel
theorem dMD_weightIn_12 : decode cMD_weightIn 12 = .ok (.aload_n 0, 1) := by decide +kernel
theorem dMD_weightIn_13 : decode cMD_weightIn 13 = .ok (.getfield 23, 3) := by decide +kernel
theorem dMD_weightIn_16 : decode cMD_weightIn 16 = .ok (.iload_n 1, 1) := by decide +kernel
theorem dMD_weightIn_17 : decode cMD_weightIn 17 = .ok (.iaload, 1) := by decide +kernel
theorem dMD_weightIn_18 : decode cMD_weightIn 18 = .ok (.iadd, 1) := by decide +kernel
theorem dMD_weightIn_19 : decode cMD_weightIn 19 = .ok (.if_icmp .ge 51, 3) := by decide +kernel
theorem dMD_weightIn_22 : decode cMD_weightIn 22 = .ok (.aload_n 0, 1) := by decide +kernel
theorem dMD_weightIn_23 : decode cMD_weightIn 23 = .ok (.getfield 7, 3) := by decide +kernel
theorem dMD_weightIn_26 : decode cMD_weightIn 26 = .ok (.iload 5, 2) := by decide +kernel
theorem dMD_weightIn_28 : decode cMD_weightIn 28 = .ok (.iaload, 1) := by decide +kernel
theorem dMD_weightIn_29 : decode cMD_weightIn 29 = .ok (.iload_n 2, 1) := by decide +kernel
theorem dMD_weightIn_30 : decode cMD_weightIn 30 = .ok (.if_icmp .ne 34, 3) := by decide +kernel
theorem dMD_weightIn_33 : decode cMD_weightIn 33 = .ok (.aload_n 0, 1) := by decide +kernel
theorem dMD_weightIn_34 : decode cMD_weightIn 34 = .ok (.getfield 13, 3) := by decide +kernel
theorem dMD_weightIn_37 : decode cMD_weightIn 37 = .ok (.iload 5, 2) := by decide +kernel
theorem dMD_weightIn_39 : decode cMD_weightIn 39 = .ok (.iaload, 1) := by decide +kernel
theorem dMD_weightIn_40 : decode cMD_weightIn 40 = .ok (.iload_n 3, 1) := by decide +kernel
theorem dMD_weightIn_41 : decode cMD_weightIn 41 = .ok (.if_icmp .ne 23, 3) := by decide +kernel
theorem dMD_weightIn_44 : decode cMD_weightIn 44 = .ok (.aload_n 0, 1) := by decide +kernel
theorem dMD_weightIn_45 : decode cMD_weightIn 45 = .ok (.getfield 16, 3) := by decide +kernel
theorem dMD_weightIn_48 : decode cMD_weightIn 48 = .ok (.iload 5, 2) := by decide +kernel
theorem dMD_weightIn_50 : decode cMD_weightIn 50 = .ok (.iaload, 1) := by decide +kernel
theorem dMD_weightIn_51 : decode cMD_weightIn 51 = .ok (.iload 4, 2) := by decide +kernel
theorem dMD_weightIn_53 : decode cMD_weightIn 53 = .ok (.if_icmp .ne 11, 3) := by decide +kernel
theorem dMD_weightIn_56 : decode cMD_weightIn 56 = .ok (.aload_n 0, 1) := by decide +kernel
theorem dMD_weightIn_57 : decode cMD_weightIn 57 = .ok (.getfield 19, 3) := by decide +kernel
theorem dMD_weightIn_60 : decode cMD_weightIn 60 = .ok (.iload 5, 2) := by decide +kernel
theorem dMD_weightIn_62 : decode cMD_weightIn 62 = .ok (.laload, 1) := by decide +kernel
theorem dMD_weightIn_63 : decode cMD_weightIn 63 = .ok (.lreturn, 1) := by decide +kernel
theorem dMD_weightIn_64 : decode cMD_weightIn 64 = .ok (.iinc 5 1, 3) := by decide +kernel
theorem dMD_weightIn_67 : decode cMD_weightIn 67 = .ok (.goto (-61), 3) := by decide +kernel
theorem dMD_weightIn_70 : decode cMD_weightIn 70 = .ok (.lconst 0, 1) := by decide +kernel
theorem dMD_weightIn_71 : decode cMD_weightIn 71 = .ok (.lreturn, 1) := by decide +kernel
theorem dMD_adopt_0 : decode cMD_adopt 0 = .ok (.aload_n 0, 1) := by decide +kernel
theorem dMD_adopt_1 : decode cMD_adopt 1 = .ok (.getfield 23, 3) := by decide +kernel
theorem dMD_adopt_4 : decode cMD_adopt 4 = .ok (.iload_n 1, 1) := by decide +kernel
theorem dMD_adopt_5 : decode cMD_adopt 5 = .ok (.aload_n 0, 1) := by decide +kernel
theorem dMD_adopt_6 : decode cMD_adopt 6 = .ok (.getfield 23, 3) := by decide +kernel
theorem dMD_adopt_9 : decode cMD_adopt 9 = .ok (.iload_n 1, 1) := by decide +kernel
theorem dMD_adopt_10 : decode cMD_adopt 10 = .ok (.bipush 13, 2) := by decide +kernel
theorem dMD_adopt_12 : decode cMD_adopt 12 = .ok (.iadd, 1) := by decide +kernel
theorem dMD_adopt_13 : decode cMD_adopt 13 = .ok (.iaload, 1) := by decide +kernel
theorem dMD_adopt_14 : decode cMD_adopt 14 = .ok (.iastore, 1) := by decide +kernel
theorem dMD_adopt_15 : decode cMD_adopt 15 = .ok (.iconst 0, 1) := by decide +kernel
theorem dMD_adopt_16 : decode cMD_adopt 16 = .ok (.istore_n 2, 1) := by decide +kernel
theorem dMD_adopt_17 : decode cMD_adopt 17 = .ok (.iload_n 2, 1) := by decide +kernel
theorem dMD_adopt_18 : decode cMD_adopt 18 = .ok (.aload_n 0, 1) := by decide +kernel
theorem dMD_adopt_19 : decode cMD_adopt 19 = .ok (.getfield 23, 3) := by decide +kernel
theorem dMD_adopt_22 : decode cMD_adopt 22 = .ok (.iload_n 1, 1) := by decide +kernel
theorem dMD_adopt_23 : decode cMD_adopt 23 = .ok (.iaload, 1) := by decide +kernel
theorem dMD_adopt_24 : decode cMD_adopt 24 = .ok (.if_icmp .ge 80, 3) := by decide +kernel
theorem dMD_adopt_27 : decode cMD_adopt 27 = .ok (.iload_n 1, 1) := by decide +kernel
theorem dMD_adopt_28 : decode cMD_adopt 28 = .ok (.bipush 24, 2) := by decide +kernel
theorem dMD_adopt_30 : decode cMD_adopt 30 = .ok (.imul, 1) := by decide +kernel
theorem dMD_adopt_31 : decode cMD_adopt 31 = .ok (.iload_n 2, 1) := by decide +kernel
theorem dMD_adopt_32 : decode cMD_adopt 32 = .ok (.iadd, 1) := by decide +kernel
theorem dMD_adopt_33 : decode cMD_adopt 33 = .ok (.istore_n 3, 1) := by decide +kernel
theorem dMD_adopt_34 : decode cMD_adopt 34 = .ok (.aload_n 0, 1) := by decide +kernel
theorem dMD_adopt_35 : decode cMD_adopt 35 = .ok (.getfield 7, 3) := by decide +kernel
theorem dMD_adopt_38 : decode cMD_adopt 38 = .ok (.iload_n 3, 1) := by decide +kernel
theorem dMD_adopt_39 : decode cMD_adopt 39 = .ok (.aload_n 0, 1) := by decide +kernel
theorem dMD_adopt_40 : decode cMD_adopt 40 = .ok (.getfield 7, 3) := by decide +kernel
theorem dMD_adopt_43 : decode cMD_adopt 43 = .ok (.iload_n 3, 1) := by decide +kernel
theorem dMD_adopt_44 : decode cMD_adopt 44 = .ok (.sipush 312, 3) := by decide +kernel
theorem dMD_adopt_47 : decode cMD_adopt 47 = .ok (.iadd, 1) := by decide +kernel
theorem dMD_adopt_48 : decode cMD_adopt 48 = .ok (.iaload, 1) := by decide +kernel
theorem dMD_adopt_49 : decode cMD_adopt 49 = .ok (.iastore, 1) := by decide +kernel
theorem dMD_adopt_50 : decode cMD_adopt 50 = .ok (.aload_n 0, 1) := by decide +kernel
theorem dMD_adopt_51 : decode cMD_adopt 51 = .ok (.getfield 13, 3) := by decide +kernel
theorem dMD_adopt_54 : decode cMD_adopt 54 = .ok (.iload_n 3, 1) := by decide +kernel
theorem dMD_adopt_55 : decode cMD_adopt 55 = .ok (.aload_n 0, 1) := by decide +kernel
theorem dMD_adopt_56 : decode cMD_adopt 56 = .ok (.getfield 13, 3) := by decide +kernel
theorem dMD_adopt_59 : decode cMD_adopt 59 = .ok (.iload_n 3, 1) := by decide +kernel
theorem dMD_adopt_60 : decode cMD_adopt 60 = .ok (.sipush 312, 3) := by decide +kernel
theorem dMD_adopt_63 : decode cMD_adopt 63 = .ok (.iadd, 1) := by decide +kernel
theorem dMD_adopt_64 : decode cMD_adopt 64 = .ok (.iaload, 1) := by decide +kernel
theorem dMD_adopt_65 : decode cMD_adopt 65 = .ok (.iastore, 1) := by decide +kernel
theorem dMD_adopt_66 : decode cMD_adopt 66 = .ok (.aload_n 0, 1) := by decide +kernel
theorem dMD_adopt_67 : decode cMD_adopt 67 = .ok (.getfield 16, 3) := by decide +kernel
theorem dMD_adopt_70 : decode cMD_adopt 70 = .ok (.iload_n 3, 1) := by decide +kernel
theorem dMD_adopt_71 : decode cMD_adopt 71 = .ok (.aload_n 0, 1) := by decide +kernel
theorem dMD_adopt_72 : decode cMD_adopt 72 = .ok (.getfield 16, 3) := by decide +kernel
theorem dMD_adopt_75 : decode cMD_adopt 75 = .ok (.iload_n 3, 1) := by decide +kernel
theorem dMD_adopt_76 : decode cMD_adopt 76 = .ok (.sipush 312, 3) := by decide +kernel
theorem dMD_adopt_79 : decode cMD_adopt 79 = .ok (.iadd, 1) := by decide +kernel
theorem dMD_adopt_80 : decode cMD_adopt 80 = .ok (.iaload, 1) := by decide +kernel
theorem dMD_adopt_81 : decode cMD_adopt 81 = .ok (.iastore, 1) := by decide +kernel
theorem dMD_adopt_82 : decode cMD_adopt 82 = .ok (.aload_n 0, 1) := by decide +kernel
theorem dMD_adopt_83 : decode cMD_adopt 83 = .ok (.getfield 19, 3) := by decide +kernel
theorem dMD_adopt_86 : decode cMD_adopt 86 = .ok (.iload_n 3, 1) := by decide +kernel
theorem dMD_adopt_87 : decode cMD_adopt 87 = .ok (.aload_n 0, 1) := by decide +kernel
theorem dMD_adopt_88 : decode cMD_adopt 88 = .ok (.getfield 19, 3) := by decide +kernel
theorem dMD_adopt_91 : decode cMD_adopt 91 = .ok (.iload_n 3, 1) := by decide +kernel
theorem dMD_adopt_92 : decode cMD_adopt 92 = .ok (.sipush 312, 3) := by decide +kernel
theorem dMD_adopt_95 : decode cMD_adopt 95 = .ok (.iadd, 1) := by decide +kernel
theorem dMD_adopt_96 : decode cMD_adopt 96 = .ok (.laload, 1) := by decide +kernel
theorem dMD_adopt_97 : decode cMD_adopt 97 = .ok (.lastore, 1) := by decide +kernel
theorem dMD_adopt_98 : decode cMD_adopt 98 = .ok (.iinc 2 1, 3) := by decide +kernel
theorem dMD_adopt_101 : decode cMD_adopt 101 = .ok (.goto (-84), 3) := by decide +kernel
theorem dMD_adopt_104 : decode cMD_adopt 104 = .ok (.return_, 1) := by decide +kernel
theorem dMD_drop_0 : decode cMD_drop 0 = .ok (.aload_n 0, 1) := by decide +kernel
theorem dMD_drop_1 : decode cMD_drop 1 = .ok (.getfield 119, 3) := by decide +kernel
theorem dMD_drop_4 : decode cMD_drop 4 = .ok (.istore_n 1, 1) := by decide +kernel
theorem dMD_drop_5 : decode cMD_drop 5 = .ok (.aload_n 0, 1) := by decide +kernel
theorem dMD_drop_6 : decode cMD_drop 6 = .ok (.iconst 0, 1) := by decide +kernel
theorem dMD_drop_7 : decode cMD_drop 7 = .ok (.putfield 119, 3) := by decide +kernel
theorem dMD_drop_10 : decode cMD_drop 10 = .ok (.iload_n 1, 1) := by decide +kernel
theorem dMD_drop_11 : decode cMD_drop 11 = .ok (.ireturn, 1) := by decide +kernel
theorem dMD_weight_0 : decode cMD_weight 0 = .ok (.aload_n 0, 1) := by decide +kernel
theorem dMD_weight_1 : decode cMD_weight 1 = .ok (.iload_n 1, 1) := by decide +kernel
theorem dMD_weight_2 : decode cMD_weight 2 = .ok (.aload_n 0, 1) := by decide +kernel
theorem dMD_weight_3 : decode cMD_weight 3 = .ok (.getfield 106, 3) := by decide +kernel
theorem dMD_weight_6 : decode cMD_weight 6 = .ok (.invokevirtual 112, 3) := by decide +kernel
theorem dMD_weight_9 : decode cMD_weight 9 = .ok (.ifCond .eq 9, 3) := by decide +kernel
theorem dMD_weight_12 : decode cMD_weight 12 = .ok (.ldc2_w 137, 3) := by decide +kernel
theorem dMD_weight_15 : decode cMD_weight 15 = .ok (.goto 14, 3) := by decide +kernel
theorem dMD_weight_18 : decode cMD_weight 18 = .ok (.aload_n 0, 1) := by decide +kernel
theorem dMD_weight_19 : decode cMD_weight 19 = .ok (.iconst 3, 1) := by decide +kernel
theorem dMD_weight_20 : decode cMD_weight 20 = .ok (.iload_n 1, 1) := by decide +kernel
theorem dMD_weight_21 : decode cMD_weight 21 = .ok (.iadd, 1) := by decide +kernel
theorem dMD_weight_22 : decode cMD_weight 22 = .ok (.iload_n 2, 1) := by decide +kernel
theorem dMD_weight_23 : decode cMD_weight 23 = .ok (.iload_n 3, 1) := by decide +kernel
theorem dMD_weight_24 : decode cMD_weight 24 = .ok (.iload 4, 2) := by decide +kernel
theorem dMD_weight_26 : decode cMD_weight 26 = .ok (.invokevirtual 122, 3) := by decide +kernel
theorem dMD_weight_29 : decode cMD_weight 29 = .ok (.lreturn, 1) := by decide +kernel
theorem dMD_inTable_0 : decode cMD_inTable 0 = .ok (.aload_n 0, 1) := by decide +kernel
theorem dMD_inTable_1 : decode cMD_inTable 1 = .ok (.iload_n 1, 1) := by decide +kernel
theorem dMD_inTable_2 : decode cMD_inTable 2 = .ok (.iconst 3, 1) := by decide +kernel
theorem dMD_inTable_3 : decode cMD_inTable 3 = .ok (.invokevirtual 112, 3) := by decide +kernel
theorem dMD_inTable_6 : decode cMD_inTable 6 = .ok (.ifCond .eq 9, 3) := by decide +kernel
theorem dMD_inTable_9 : decode cMD_inTable 9 = .ok (.ldc2_w 137, 3) := by decide +kernel
theorem dMD_inTable_12 : decode cMD_inTable 12 = .ok (.goto 12, 3) := by decide +kernel
theorem dMD_inTable_15 : decode cMD_inTable 15 = .ok (.aload_n 0, 1) := by decide +kernel
theorem dMD_inTable_16 : decode cMD_inTable 16 = .ok (.iload_n 1, 1) := by decide +kernel
theorem dMD_inTable_17 : decode cMD_inTable 17 = .ok (.iload_n 2, 1) := by decide +kernel
theorem dMD_inTable_18 : decode cMD_inTable 18 = .ok (.iload_n 3, 1) := by decide +kernel
theorem dMD_inTable_19 : decode cMD_inTable 19 = .ok (.iload 4, 2) := by decide +kernel
theorem dMD_inTable_21 : decode cMD_inTable 21 = .ok (.invokevirtual 122, 3) := by decide +kernel
theorem dMD_inTable_24 : decode cMD_inTable 24 = .ok (.lreturn, 1) := by decide +kernel
theorem dMD_rows_0 : decode cMD_rows 0 = .ok (.aload_n 0, 1) := by decide +kernel
theorem dMD_rows_1 : decode cMD_rows 1 = .ok (.iload_n 1, 1) := by decide +kernel
theorem dMD_rows_2 : decode cMD_rows 2 = .ok (.aload_n 0, 1) := by decide +kernel
theorem dMD_rows_3 : decode cMD_rows 3 = .ok (.getfield 106, 3) := by decide +kernel
theorem dMD_rows_6 : decode cMD_rows 6 = .ok (.invokevirtual 112, 3) := by decide +kernel
theorem dMD_rows_9 : decode cMD_rows 9 = .ok (.ifCond .eq 7, 3) := by decide +kernel
theorem dMD_rows_12 : decode cMD_rows 12 = .ok (.iconst (-1), 1) := by decide +kernel
theorem dMD_rows_13 : decode cMD_rows 13 = .ok (.goto 11, 3) := by decide +kernel
theorem dMD_rows_16 : decode cMD_rows 16 = .ok (.aload_n 0, 1) := by decide +kernel
theorem dMD_rows_17 : decode cMD_rows 17 = .ok (.getfield 23, 3) := by decide +kernel
theorem dMD_rows_20 : decode cMD_rows 20 = .ok (.iconst 3, 1) := by decide +kernel
theorem dMD_rows_21 : decode cMD_rows 21 = .ok (.iload_n 1, 1) := by decide +kernel
theorem dMD_rows_22 : decode cMD_rows 22 = .ok (.iadd, 1) := by decide +kernel
theorem dMD_rows_23 : decode cMD_rows 23 = .ok (.iaload, 1) := by decide +kernel
theorem dMD_rows_24 : decode cMD_rows 24 = .ok (.ireturn, 1) := by decide +kernel
theorem dMD_cell_0 : decode cMD_cell 0 = .ok (.aload_n 0, 1) := by decide +kernel
theorem dMD_cell_1 : decode cMD_cell 1 = .ok (.iload_n 1, 1) := by decide +kernel
theorem dMD_cell_2 : decode cMD_cell 2 = .ok (.aload_n 0, 1) := by decide +kernel
theorem dMD_cell_3 : decode cMD_cell 3 = .ok (.getfield 106, 3) := by decide +kernel
theorem dMD_cell_6 : decode cMD_cell 6 = .ok (.invokevirtual 112, 3) := by decide +kernel
theorem dMD_cell_9 : decode cMD_cell 9 = .ok (.ifCond .ne 28, 3) := by decide +kernel
theorem dMD_cell_12 : decode cMD_cell 12 = .ok (.aload_n 0, 1) := by decide +kernel
theorem dMD_cell_13 : decode cMD_cell 13 = .ok (.iload_n 3, 1) := by decide +kernel
theorem dMD_cell_14 : decode cMD_cell 14 = .ok (.iconst 3, 1) := by decide +kernel
theorem dMD_cell_15 : decode cMD_cell 15 = .ok (.invokevirtual 112, 3) := by decide +kernel
theorem dMD_cell_18 : decode cMD_cell 18 = .ok (.ifCond .ne 19, 3) := by decide +kernel
theorem dMD_cell_21 : decode cMD_cell 21 = .ok (.aload_n 0, 1) := by decide +kernel
theorem dMD_cell_22 : decode cMD_cell 22 = .ok (.iload_n 2, 1) := by decide +kernel
theorem dMD_cell_23 : decode cMD_cell 23 = .ok (.aload_n 0, 1) := by decide +kernel
theorem dMD_cell_24 : decode cMD_cell 24 = .ok (.getfield 23, 3) := by decide +kernel
theorem dMD_cell_27 : decode cMD_cell 27 = .ok (.iconst 3, 1) := by decide +kernel
theorem dMD_cell_28 : decode cMD_cell 28 = .ok (.iload_n 1, 1) := by decide +kernel
theorem dMD_cell_29 : decode cMD_cell 29 = .ok (.iadd, 1) := by decide +kernel
theorem dMD_cell_30 : decode cMD_cell 30 = .ok (.iaload, 1) := by decide +kernel
theorem dMD_cell_31 : decode cMD_cell 31 = .ok (.invokevirtual 112, 3) := by decide +kernel
theorem dMD_cell_34 : decode cMD_cell 34 = .ok (.ifCond .eq 7, 3) := by decide +kernel
theorem dMD_cell_37 : decode cMD_cell 37 = .ok (.ldc2_w 137, 3) := by decide +kernel
theorem dMD_cell_40 : decode cMD_cell 40 = .ok (.lreturn, 1) := by decide +kernel
theorem dMD_cell_41 : decode cMD_cell 41 = .ok (.aload_n 0, 1) := by decide +kernel
theorem dMD_cell_42 : decode cMD_cell 42 = .ok (.iconst 3, 1) := by decide +kernel
theorem dMD_cell_43 : decode cMD_cell 43 = .ok (.iload_n 1, 1) := by decide +kernel
theorem dMD_cell_44 : decode cMD_cell 44 = .ok (.iadd, 1) := by decide +kernel
theorem dMD_cell_45 : decode cMD_cell 45 = .ok (.bipush 24, 2) := by decide +kernel
theorem dMD_cell_47 : decode cMD_cell 47 = .ok (.imul, 1) := by decide +kernel
theorem dMD_cell_48 : decode cMD_cell 48 = .ok (.iload_n 2, 1) := by decide +kernel
theorem dMD_cell_49 : decode cMD_cell 49 = .ok (.iadd, 1) := by decide +kernel
theorem dMD_cell_50 : decode cMD_cell 50 = .ok (.iload_n 3, 1) := by decide +kernel
theorem dMD_cell_51 : decode cMD_cell 51 = .ok (.invokevirtual 74, 3) := by decide +kernel
theorem dMD_cell_54 : decode cMD_cell 54 = .ok (.i2l, 1) := by decide +kernel
theorem dMD_cell_55 : decode cMD_cell 55 = .ok (.lreturn, 1) := by decide +kernel
theorem dMD_total_0 : decode cMD_total 0 = .ok (.aload_n 0, 1) := by decide +kernel
theorem dMD_total_1 : decode cMD_total 1 = .ok (.iload_n 1, 1) := by decide +kernel
theorem dMD_total_2 : decode cMD_total 2 = .ok (.aload_n 0, 1) := by decide +kernel
theorem dMD_total_3 : decode cMD_total 3 = .ok (.getfield 106, 3) := by decide +kernel
theorem dMD_total_6 : decode cMD_total 6 = .ok (.invokevirtual 112, 3) := by decide +kernel
theorem dMD_total_9 : decode cMD_total 9 = .ok (.ifCond .eq 7, 3) := by decide +kernel
theorem dMD_total_12 : decode cMD_total 12 = .ok (.ldc2_w 137, 3) := by decide +kernel
theorem dMD_total_15 : decode cMD_total 15 = .ok (.lreturn, 1) := by decide +kernel
theorem dMD_total_16 : decode cMD_total 16 = .ok (.lconst 0, 1) := by decide +kernel
theorem dMD_total_17 : decode cMD_total 17 = .ok (.lstore_n 2, 1) := by decide +kernel
theorem dMD_total_18 : decode cMD_total 18 = .ok (.iconst 3, 1) := by decide +kernel
theorem dMD_total_19 : decode cMD_total 19 = .ok (.iload_n 1, 1) := by decide +kernel
theorem dMD_total_20 : decode cMD_total 20 = .ok (.iadd, 1) := by decide +kernel
theorem dMD_total_21 : decode cMD_total 21 = .ok (.bipush 24, 2) := by decide +kernel
theorem dMD_total_23 : decode cMD_total 23 = .ok (.imul, 1) := by decide +kernel
theorem dMD_total_24 : decode cMD_total 24 = .ok (.istore 4, 2) := by decide +kernel
theorem dMD_total_26 : decode cMD_total 26 = .ok (.iload 4, 2) := by decide +kernel
theorem dMD_total_28 : decode cMD_total 28 = .ok (.iconst 3, 1) := by decide +kernel
theorem dMD_total_29 : decode cMD_total 29 = .ok (.iload_n 1, 1) := by decide +kernel
theorem dMD_total_30 : decode cMD_total 30 = .ok (.iadd, 1) := by decide +kernel
theorem dMD_total_31 : decode cMD_total 31 = .ok (.bipush 24, 2) := by decide +kernel
theorem dMD_total_33 : decode cMD_total 33 = .ok (.imul, 1) := by decide +kernel
theorem dMD_total_34 : decode cMD_total 34 = .ok (.aload_n 0, 1) := by decide +kernel
theorem dMD_total_35 : decode cMD_total 35 = .ok (.getfield 23, 3) := by decide +kernel
theorem dMD_total_38 : decode cMD_total 38 = .ok (.iconst 3, 1) := by decide +kernel
theorem dMD_total_39 : decode cMD_total 39 = .ok (.iload_n 1, 1) := by decide +kernel
theorem dMD_total_40 : decode cMD_total 40 = .ok (.iadd, 1) := by decide +kernel
theorem dMD_total_41 : decode cMD_total 41 = .ok (.iaload, 1) := by decide +kernel
theorem dMD_total_42 : decode cMD_total 42 = .ok (.iadd, 1) := by decide +kernel
theorem dMD_total_43 : decode cMD_total 43 = .ok (.if_icmp .ge 19, 3) := by decide +kernel
theorem dMD_total_46 : decode cMD_total 46 = .ok (.lload_n 2, 1) := by decide +kernel
theorem dMD_total_47 : decode cMD_total 47 = .ok (.aload_n 0, 1) := by decide +kernel
theorem dMD_total_48 : decode cMD_total 48 = .ok (.getfield 19, 3) := by decide +kernel
theorem dMD_total_51 : decode cMD_total 51 = .ok (.iload 4, 2) := by decide +kernel
theorem dMD_total_53 : decode cMD_total 53 = .ok (.laload, 1) := by decide +kernel
theorem dMD_total_54 : decode cMD_total 54 = .ok (.ladd, 1) := by decide +kernel
theorem dMD_total_55 : decode cMD_total 55 = .ok (.lstore_n 2, 1) := by decide +kernel
theorem dMD_total_56 : decode cMD_total 56 = .ok (.iinc 4 1, 3) := by decide +kernel
theorem dMD_total_59 : decode cMD_total 59 = .ok (.goto (-33), 3) := by decide +kernel
theorem dMD_total_62 : decode cMD_total 62 = .ok (.lload_n 2, 1) := by decide +kernel
theorem dMD_total_63 : decode cMD_total 63 = .ok (.lreturn, 1) := by decide +kernel
theorem dMD_changed_0 : decode cMD_changed 0 = .ok (.aload_n 0, 1) := by decide +kernel
theorem dMD_changed_1 : decode cMD_changed 1 = .ok (.iload_n 1, 1) := by decide +kernel
theorem dMD_changed_2 : decode cMD_changed 2 = .ok (.aload_n 0, 1) := by decide +kernel
theorem dMD_changed_3 : decode cMD_changed 3 = .ok (.getfield 106, 3) := by decide +kernel
theorem dMD_changed_6 : decode cMD_changed 6 = .ok (.invokevirtual 112, 3) := by decide +kernel
theorem dMD_changed_9 : decode cMD_changed 9 = .ok (.ifCond .eq 7, 3) := by decide +kernel
theorem dMD_changed_12 : decode cMD_changed 12 = .ok (.iconst (-1), 1) := by decide +kernel
theorem dMD_changed_13 : decode cMD_changed 13 = .ok (.goto 9, 3) := by decide +kernel
theorem dMD_changed_16 : decode cMD_changed 16 = .ok (.aload_n 0, 1) := by decide +kernel
theorem dMD_changed_17 : decode cMD_changed 17 = .ok (.getfield 44, 3) := by decide +kernel
theorem dMD_changed_20 : decode cMD_changed 20 = .ok (.iload_n 1, 1) := by decide +kernel
theorem dMD_changed_21 : decode cMD_changed 21 = .ok (.iaload, 1) := by decide +kernel
theorem dMD_changed_22 : decode cMD_changed 22 = .ok (.ireturn, 1) := by decide +kernel
theorem dMD_mean_0 : decode cMD_mean 0 = .ok (.aload_n 0, 1) := by decide +kernel
theorem dMD_mean_1 : decode cMD_mean 1 = .ok (.iload_n 1, 1) := by decide +kernel
theorem dMD_mean_2 : decode cMD_mean 2 = .ok (.aload_n 0, 1) := by decide +kernel
theorem dMD_mean_3 : decode cMD_mean 3 = .ok (.getfield 106, 3) := by decide +kernel
theorem dMD_mean_6 : decode cMD_mean 6 = .ok (.invokevirtual 112, 3) := by decide +kernel
theorem dMD_mean_9 : decode cMD_mean 9 = .ok (.ifCond .ne 12, 3) := by decide +kernel
theorem dMD_mean_12 : decode cMD_mean 12 = .ok (.aload_n 0, 1) := by decide +kernel
theorem dMD_mean_13 : decode cMD_mean 13 = .ok (.iload_n 2, 1) := by decide +kernel
theorem dMD_mean_14 : decode cMD_mean 14 = .ok (.iconst 3, 1) := by decide +kernel
theorem dMD_mean_15 : decode cMD_mean 15 = .ok (.invokevirtual 112, 3) := by decide +kernel
theorem dMD_mean_18 : decode cMD_mean 18 = .ok (.ifCond .eq 5, 3) := by decide +kernel
theorem dMD_mean_21 : decode cMD_mean 21 = .ok (.dconst 0, 1) := by decide +kernel
theorem dMD_mean_22 : decode cMD_mean 22 = .ok (.dreturn, 1) := by decide +kernel
theorem dMD_mean_23 : decode cMD_mean 23 = .ok (.aload_n 0, 1) := by decide +kernel
theorem dMD_mean_24 : decode cMD_mean 24 = .ok (.iload_n 1, 1) := by decide +kernel
theorem dMD_mean_25 : decode cMD_mean 25 = .ok (.invokevirtual 139, 3) := by decide +kernel
theorem dMD_mean_28 : decode cMD_mean 28 = .ok (.lstore_n 3, 1) := by decide +kernel
theorem dMD_mean_29 : decode cMD_mean 29 = .ok (.lload_n 3, 1) := by decide +kernel
theorem dMD_mean_30 : decode cMD_mean 30 = .ok (.lconst 0, 1) := by decide +kernel
theorem dMD_mean_31 : decode cMD_mean 31 = .ok (.lcmp, 1) := by decide +kernel
theorem dMD_mean_32 : decode cMD_mean 32 = .ok (.ifCond .ne 5, 3) := by decide +kernel
theorem dMD_mean_35 : decode cMD_mean 35 = .ok (.dconst 0, 1) := by decide +kernel
theorem dMD_mean_36 : decode cMD_mean 36 = .ok (.dreturn, 1) := by decide +kernel
theorem dMD_mean_37 : decode cMD_mean 37 = .ok (.lconst 0, 1) := by decide +kernel
theorem dMD_mean_38 : decode cMD_mean 38 = .ok (.lstore 5, 2) := by decide +kernel
theorem dMD_mean_40 : decode cMD_mean 40 = .ok (.iconst 3, 1) := by decide +kernel
theorem dMD_mean_41 : decode cMD_mean 41 = .ok (.iload_n 1, 1) := by decide +kernel
theorem dMD_mean_42 : decode cMD_mean 42 = .ok (.iadd, 1) := by decide +kernel
theorem dMD_mean_43 : decode cMD_mean 43 = .ok (.bipush 24, 2) := by decide +kernel
theorem dMD_mean_45 : decode cMD_mean 45 = .ok (.imul, 1) := by decide +kernel
theorem dMD_mean_46 : decode cMD_mean 46 = .ok (.istore 7, 2) := by decide +kernel
theorem dMD_mean_48 : decode cMD_mean 48 = .ok (.iload 7, 2) := by decide +kernel
theorem dMD_mean_50 : decode cMD_mean 50 = .ok (.iconst 3, 1) := by decide +kernel
theorem dMD_mean_51 : decode cMD_mean 51 = .ok (.iload_n 1, 1) := by decide +kernel
theorem dMD_mean_52 : decode cMD_mean 52 = .ok (.iadd, 1) := by decide +kernel
theorem dMD_mean_53 : decode cMD_mean 53 = .ok (.bipush 24, 2) := by decide +kernel
theorem dMD_mean_55 : decode cMD_mean 55 = .ok (.imul, 1) := by decide +kernel
theorem dMD_mean_56 : decode cMD_mean 56 = .ok (.aload_n 0, 1) := by decide +kernel
theorem dMD_mean_57 : decode cMD_mean 57 = .ok (.getfield 23, 3) := by decide +kernel
theorem dMD_mean_60 : decode cMD_mean 60 = .ok (.iconst 3, 1) := by decide +kernel
theorem dMD_mean_61 : decode cMD_mean 61 = .ok (.iload_n 1, 1) := by decide +kernel
theorem dMD_mean_62 : decode cMD_mean 62 = .ok (.iadd, 1) := by decide +kernel
theorem dMD_mean_63 : decode cMD_mean 63 = .ok (.iaload, 1) := by decide +kernel
theorem dMD_mean_64 : decode cMD_mean 64 = .ok (.iadd, 1) := by decide +kernel
theorem dMD_mean_65 : decode cMD_mean 65 = .ok (.if_icmp .ge 30, 3) := by decide +kernel
theorem dMD_mean_68 : decode cMD_mean 68 = .ok (.lload 5, 2) := by decide +kernel
theorem dMD_mean_70 : decode cMD_mean 70 = .ok (.aload_n 0, 1) := by decide +kernel
theorem dMD_mean_71 : decode cMD_mean 71 = .ok (.getfield 19, 3) := by decide +kernel
theorem dMD_mean_74 : decode cMD_mean 74 = .ok (.iload 7, 2) := by decide +kernel
theorem dMD_mean_76 : decode cMD_mean 76 = .ok (.laload, 1) := by decide +kernel
theorem dMD_mean_77 : decode cMD_mean 77 = .ok (.aload_n 0, 1) := by decide +kernel
theorem dMD_mean_78 : decode cMD_mean 78 = .ok (.iload 7, 2) := by decide +kernel
theorem dMD_mean_80 : decode cMD_mean 80 = .ok (.iload_n 2, 1) := by decide +kernel
theorem dMD_mean_81 : decode cMD_mean 81 = .ok (.invokevirtual 74, 3) := by decide +kernel
theorem dMD_mean_84 : decode cMD_mean 84 = .ok (.i2l, 1) := by decide +kernel
theorem dMD_mean_85 : decode cMD_mean 85 = .ok (.lmul, 1) := by decide +kernel
theorem dMD_mean_86 : decode cMD_mean 86 = .ok (.ladd, 1) := by decide +kernel
theorem dMD_mean_87 : decode cMD_mean 87 = .ok (.lstore 5, 2) := by decide +kernel
theorem dMD_mean_89 : decode cMD_mean 89 = .ok (.iinc 7 1, 3) := by decide +kernel
theorem dMD_mean_92 : decode cMD_mean 92 = .ok (.goto (-44), 3) := by decide +kernel
theorem dMD_mean_95 : decode cMD_mean 95 = .ok (.lload 5, 2) := by decide +kernel
theorem dMD_mean_97 : decode cMD_mean 97 = .ok (.l2d, 1) := by decide +kernel
theorem dMD_mean_98 : decode cMD_mean 98 = .ok (.lload_n 3, 1) := by decide +kernel
theorem dMD_mean_99 : decode cMD_mean 99 = .ok (.l2d, 1) := by decide +kernel
theorem dMD_mean_100 : decode cMD_mean 100 = .ok (.ddiv, 1) := by decide +kernel
theorem dMD_mean_101 : decode cMD_mean 101 = .ok (.dreturn, 1) := by decide +kernel
theorem dMD_count_0 : decode cMD_count 0 = .ok (.iload_n 1, 1) := by decide +kernel
theorem dMD_count_1 : decode cMD_count 1 = .ok (.ifCond .ne 8, 3) := by decide +kernel
theorem dMD_count_4 : decode cMD_count 4 = .ok (.aload_n 0, 1) := by decide +kernel
theorem dMD_count_5 : decode cMD_count 5 = .ok (.getfield 106, 3) := by decide +kernel
theorem dMD_count_8 : decode cMD_count 8 = .ok (.ireturn, 1) := by decide +kernel
theorem dMD_count_9 : decode cMD_count 9 = .ok (.iload_n 1, 1) := by decide +kernel
theorem dMD_count_10 : decode cMD_count 10 = .ok (.iconst 1, 1) := by decide +kernel
theorem dMD_count_11 : decode cMD_count 11 = .ok (.if_icmp .ne 8, 3) := by decide +kernel
theorem dMD_count_14 : decode cMD_count 14 = .ok (.aload_n 0, 1) := by decide +kernel
theorem dMD_count_15 : decode cMD_count 15 = .ok (.getfield 119, 3) := by decide +kernel
theorem dMD_count_18 : decode cMD_count 18 = .ok (.ireturn, 1) := by decide +kernel
theorem dMD_count_19 : decode cMD_count 19 = .ok (.iload_n 1, 1) := by decide +kernel
theorem dMD_count_20 : decode cMD_count 20 = .ok (.iconst 2, 1) := by decide +kernel
theorem dMD_count_21 : decode cMD_count 21 = .ok (.if_icmp .lt 8, 3) := by decide +kernel
theorem dMD_count_24 : decode cMD_count 24 = .ok (.iload_n 1, 1) := by decide +kernel
theorem dMD_count_25 : decode cMD_count 25 = .ok (.iconst 4, 1) := by decide +kernel
theorem dMD_count_26 : decode cMD_count 26 = .ok (.if_icmp .le 7, 3) := by decide +kernel
theorem dMD_count_29 : decode cMD_count 29 = .ok (.iconst (-1), 1) := by decide +kernel
theorem dMD_count_30 : decode cMD_count 30 = .ok (.goto 11, 3) := by decide +kernel
theorem dMD_count_33 : decode cMD_count 33 = .ok (.aload_n 0, 1) := by decide +kernel
theorem dMD_count_34 : decode cMD_count 34 = .ok (.getfield 23, 3) := by decide +kernel
theorem dMD_count_37 : decode cMD_count 37 = .ok (.iload_n 1, 1) := by decide +kernel
theorem dMD_count_38 : decode cMD_count 38 = .ok (.iconst 2, 1) := by decide +kernel
theorem dMD_count_39 : decode cMD_count 39 = .ok (.isub, 1) := by decide +kernel
theorem dMD_count_40 : decode cMD_count 40 = .ok (.iaload, 1) := by decide +kernel
theorem dMD_count_41 : decode cMD_count 41 = .ok (.ireturn, 1) := by decide +kernel
end
section
theorem dLW_law_0 : decode code 0 = .ok (.new 7, 3) := by decide +kernel
theorem dLW_law_3 : decode code 3 = .ok (.dup, 1) := by decide +kernel
theorem dLW_law_4 : decode code 4 = .ok (.invokespecial 9, 3) := by decide +kernel
theorem dLW_law_7 : decode code 7 = .ok (.astore_n 1, 1) := by decide +kernel
theorem dLW_law_8 : decode code 8 = .ok (.new 10, 3) := by decide +kernel
theorem dLW_law_11 : decode code 11 = .ok (.dup, 1) := by decide +kernel
theorem dLW_law_12 : decode code 12 = .ok (.invokespecial 12, 3) := by decide +kernel
theorem dLW_law_15 : decode code 15 = .ok (.astore_n 2, 1) := by decide +kernel
theorem dLW_law_16 : decode code 16 = .ok (.iconst 0, 1) := by decide +kernel
theorem dLW_law_17 : decode code 17 = .ok (.istore_n 3, 1) := by decide +kernel
theorem dLW_law_18 : decode code 18 = .ok (.iload_n 3, 1) := by decide +kernel
theorem dLW_law_19 : decode code 19 = .ok (.aload_n 0, 1) := by decide +kernel
theorem dLW_law_20 : decode code 20 = .ok (.arraylength, 1) := by decide +kernel
theorem dLW_law_21 : decode code 21 = .ok (.bipush 6, 2) := by decide +kernel
theorem dLW_law_23 : decode code 23 = .ok (.isub, 1) := by decide +kernel
theorem dLW_law_24 : decode code 24 = .ok (.if_icmp .gt 808, 3) := by decide +kernel
theorem dLW_law_27 : decode code 27 = .ok (.aload_n 0, 1) := by decide +kernel
theorem dLW_law_28 : decode code 28 = .ok (.iload_n 3, 1) := by decide +kernel
theorem dLW_law_29 : decode code 29 = .ok (.iaload, 1) := by decide +kernel
theorem dLW_law_30 : decode code 30 = .ok (.bipush 31, 2) := by decide +kernel
theorem dLW_law_32 : decode code 32 = .ok (.iand, 1) := by decide +kernel
theorem dLW_law_33 : decode code 33 = .ok (.tableswitch 793 0 17 #[87, 110, 163, 216, 279, 322, 345, 398, 461, 474, 487, 541, 595, 618, 662, 686, 709, 770], 87) := by decide +kernel
theorem dLW_law_120 : decode code 120 = .ok (.aload_n 1, 1) := by decide +kernel
theorem dLW_law_121 : decode code 121 = .ok (.aload_n 0, 1) := by decide +kernel
theorem dLW_law_122 : decode code 122 = .ok (.iload_n 3, 1) := by decide +kernel
theorem dLW_law_123 : decode code 123 = .ok (.iconst 1, 1) := by decide +kernel
theorem dLW_law_124 : decode code 124 = .ok (.iadd, 1) := by decide +kernel
theorem dLW_law_125 : decode code 125 = .ok (.iaload, 1) := by decide +kernel
theorem dLW_law_126 : decode code 126 = .ok (.invokevirtual 13, 3) := by decide +kernel
theorem dLW_law_129 : decode code 129 = .ok (.aload_n 2, 1) := by decide +kernel
theorem dLW_law_130 : decode code 130 = .ok (.aload_n 0, 1) := by decide +kernel
theorem dLW_law_131 : decode code 131 = .ok (.iload_n 3, 1) := by decide +kernel
theorem dLW_law_132 : decode code 132 = .ok (.iconst 1, 1) := by decide +kernel
theorem dLW_law_133 : decode code 133 = .ok (.iadd, 1) := by decide +kernel
theorem dLW_law_134 : decode code 134 = .ok (.iaload, 1) := by decide +kernel
theorem dLW_law_135 : decode code 135 = .ok (.invokevirtual 17, 3) := by decide +kernel
theorem dLW_law_138 : decode code 138 = .ok (.if_icmp .eq 688, 3) := by decide +kernel
theorem dLW_law_141 : decode code 141 = .ok (.iconst 0, 1) := by decide +kernel
theorem dLW_law_142 : decode code 142 = .ok (.ireturn, 1) := by decide +kernel
theorem dLW_law_143 : decode code 143 = .ok (.aload_n 1, 1) := by decide +kernel
theorem dLW_law_144 : decode code 144 = .ok (.aload_n 0, 1) := by decide +kernel
theorem dLW_law_145 : decode code 145 = .ok (.iload_n 3, 1) := by decide +kernel
theorem dLW_law_146 : decode code 146 = .ok (.iconst 1, 1) := by decide +kernel
theorem dLW_law_147 : decode code 147 = .ok (.iadd, 1) := by decide +kernel
theorem dLW_law_148 : decode code 148 = .ok (.iaload, 1) := by decide +kernel
theorem dLW_law_149 : decode code 149 = .ok (.aload_n 0, 1) := by decide +kernel
theorem dLW_law_150 : decode code 150 = .ok (.iload_n 3, 1) := by decide +kernel
theorem dLW_law_151 : decode code 151 = .ok (.iconst 2, 1) := by decide +kernel
theorem dLW_law_152 : decode code 152 = .ok (.iadd, 1) := by decide +kernel
theorem dLW_law_153 : decode code 153 = .ok (.iaload, 1) := by decide +kernel
theorem dLW_law_154 : decode code 154 = .ok (.aload_n 0, 1) := by decide +kernel
theorem dLW_law_155 : decode code 155 = .ok (.iload_n 3, 1) := by decide +kernel
theorem dLW_law_156 : decode code 156 = .ok (.iconst 3, 1) := by decide +kernel
theorem dLW_law_157 : decode code 157 = .ok (.iadd, 1) := by decide +kernel
theorem dLW_law_158 : decode code 158 = .ok (.iaload, 1) := by decide +kernel
theorem dLW_law_159 : decode code 159 = .ok (.aload_n 0, 1) := by decide +kernel
theorem dLW_law_160 : decode code 160 = .ok (.iload_n 3, 1) := by decide +kernel
theorem dLW_law_161 : decode code 161 = .ok (.iconst 4, 1) := by decide +kernel
theorem dLW_law_162 : decode code 162 = .ok (.iadd, 1) := by decide +kernel
theorem dLW_law_163 : decode code 163 = .ok (.iaload, 1) := by decide +kernel
theorem dLW_law_164 : decode code 164 = .ok (.invokevirtual 18, 3) := by decide +kernel
theorem dLW_law_167 : decode code 167 = .ok (.aload_n 2, 1) := by decide +kernel
theorem dLW_law_168 : decode code 168 = .ok (.aload_n 0, 1) := by decide +kernel
theorem dLW_law_169 : decode code 169 = .ok (.iload_n 3, 1) := by decide +kernel
theorem dLW_law_170 : decode code 170 = .ok (.iconst 1, 1) := by decide +kernel
theorem dLW_law_171 : decode code 171 = .ok (.iadd, 1) := by decide +kernel
theorem dLW_law_172 : decode code 172 = .ok (.iaload, 1) := by decide +kernel
theorem dLW_law_173 : decode code 173 = .ok (.aload_n 0, 1) := by decide +kernel
theorem dLW_law_174 : decode code 174 = .ok (.iload_n 3, 1) := by decide +kernel
theorem dLW_law_175 : decode code 175 = .ok (.iconst 2, 1) := by decide +kernel
theorem dLW_law_176 : decode code 176 = .ok (.iadd, 1) := by decide +kernel
theorem dLW_law_177 : decode code 177 = .ok (.iaload, 1) := by decide +kernel
theorem dLW_law_178 : decode code 178 = .ok (.aload_n 0, 1) := by decide +kernel
theorem dLW_law_179 : decode code 179 = .ok (.iload_n 3, 1) := by decide +kernel
theorem dLW_law_180 : decode code 180 = .ok (.iconst 3, 1) := by decide +kernel
theorem dLW_law_181 : decode code 181 = .ok (.iadd, 1) := by decide +kernel
theorem dLW_law_182 : decode code 182 = .ok (.iaload, 1) := by decide +kernel
theorem dLW_law_183 : decode code 183 = .ok (.aload_n 0, 1) := by decide +kernel
theorem dLW_law_184 : decode code 184 = .ok (.iload_n 3, 1) := by decide +kernel
theorem dLW_law_185 : decode code 185 = .ok (.iconst 4, 1) := by decide +kernel
theorem dLW_law_186 : decode code 186 = .ok (.iadd, 1) := by decide +kernel
theorem dLW_law_187 : decode code 187 = .ok (.iaload, 1) := by decide +kernel
theorem dLW_law_188 : decode code 188 = .ok (.invokevirtual 22, 3) := by decide +kernel
theorem dLW_law_191 : decode code 191 = .ok (.if_icmp .eq 635, 3) := by decide +kernel
theorem dLW_law_194 : decode code 194 = .ok (.iconst 0, 1) := by decide +kernel
theorem dLW_law_195 : decode code 195 = .ok (.ireturn, 1) := by decide +kernel
theorem dLW_law_196 : decode code 196 = .ok (.aload_n 1, 1) := by decide +kernel
theorem dLW_law_197 : decode code 197 = .ok (.aload_n 0, 1) := by decide +kernel
theorem dLW_law_198 : decode code 198 = .ok (.iload_n 3, 1) := by decide +kernel
theorem dLW_law_199 : decode code 199 = .ok (.iconst 1, 1) := by decide +kernel
theorem dLW_law_200 : decode code 200 = .ok (.iadd, 1) := by decide +kernel
theorem dLW_law_201 : decode code 201 = .ok (.iaload, 1) := by decide +kernel
theorem dLW_law_202 : decode code 202 = .ok (.aload_n 0, 1) := by decide +kernel
theorem dLW_law_203 : decode code 203 = .ok (.iload_n 3, 1) := by decide +kernel
theorem dLW_law_204 : decode code 204 = .ok (.iconst 2, 1) := by decide +kernel
theorem dLW_law_205 : decode code 205 = .ok (.iadd, 1) := by decide +kernel
theorem dLW_law_206 : decode code 206 = .ok (.iaload, 1) := by decide +kernel
theorem dLW_law_207 : decode code 207 = .ok (.aload_n 0, 1) := by decide +kernel
theorem dLW_law_208 : decode code 208 = .ok (.iload_n 3, 1) := by decide +kernel
theorem dLW_law_209 : decode code 209 = .ok (.iconst 3, 1) := by decide +kernel
theorem dLW_law_210 : decode code 210 = .ok (.iadd, 1) := by decide +kernel
theorem dLW_law_211 : decode code 211 = .ok (.iaload, 1) := by decide +kernel
theorem dLW_law_212 : decode code 212 = .ok (.aload_n 0, 1) := by decide +kernel
theorem dLW_law_213 : decode code 213 = .ok (.iload_n 3, 1) := by decide +kernel
theorem dLW_law_214 : decode code 214 = .ok (.iconst 4, 1) := by decide +kernel
theorem dLW_law_215 : decode code 215 = .ok (.iadd, 1) := by decide +kernel
theorem dLW_law_216 : decode code 216 = .ok (.iaload, 1) := by decide +kernel
theorem dLW_law_217 : decode code 217 = .ok (.invokevirtual 23, 3) := by decide +kernel
theorem dLW_law_220 : decode code 220 = .ok (.aload_n 2, 1) := by decide +kernel
theorem dLW_law_221 : decode code 221 = .ok (.aload_n 0, 1) := by decide +kernel
theorem dLW_law_222 : decode code 222 = .ok (.iload_n 3, 1) := by decide +kernel
theorem dLW_law_223 : decode code 223 = .ok (.iconst 1, 1) := by decide +kernel
theorem dLW_law_224 : decode code 224 = .ok (.iadd, 1) := by decide +kernel
theorem dLW_law_225 : decode code 225 = .ok (.iaload, 1) := by decide +kernel
theorem dLW_law_226 : decode code 226 = .ok (.aload_n 0, 1) := by decide +kernel
theorem dLW_law_227 : decode code 227 = .ok (.iload_n 3, 1) := by decide +kernel
theorem dLW_law_228 : decode code 228 = .ok (.iconst 2, 1) := by decide +kernel
theorem dLW_law_229 : decode code 229 = .ok (.iadd, 1) := by decide +kernel
theorem dLW_law_230 : decode code 230 = .ok (.iaload, 1) := by decide +kernel
theorem dLW_law_231 : decode code 231 = .ok (.aload_n 0, 1) := by decide +kernel
theorem dLW_law_232 : decode code 232 = .ok (.iload_n 3, 1) := by decide +kernel
theorem dLW_law_233 : decode code 233 = .ok (.iconst 3, 1) := by decide +kernel
theorem dLW_law_234 : decode code 234 = .ok (.iadd, 1) := by decide +kernel
theorem dLW_law_235 : decode code 235 = .ok (.iaload, 1) := by decide +kernel
theorem dLW_law_236 : decode code 236 = .ok (.aload_n 0, 1) := by decide +kernel
theorem dLW_law_237 : decode code 237 = .ok (.iload_n 3, 1) := by decide +kernel
theorem dLW_law_238 : decode code 238 = .ok (.iconst 4, 1) := by decide +kernel
theorem dLW_law_239 : decode code 239 = .ok (.iadd, 1) := by decide +kernel
theorem dLW_law_240 : decode code 240 = .ok (.iaload, 1) := by decide +kernel
theorem dLW_law_241 : decode code 241 = .ok (.invokevirtual 26, 3) := by decide +kernel
theorem dLW_law_244 : decode code 244 = .ok (.if_icmp .eq 582, 3) := by decide +kernel
theorem dLW_law_247 : decode code 247 = .ok (.iconst 0, 1) := by decide +kernel
theorem dLW_law_248 : decode code 248 = .ok (.ireturn, 1) := by decide +kernel
theorem dLW_law_249 : decode code 249 = .ok (.aload_n 1, 1) := by decide +kernel
theorem dLW_law_250 : decode code 250 = .ok (.aload_n 0, 1) := by decide +kernel
theorem dLW_law_251 : decode code 251 = .ok (.iload_n 3, 1) := by decide +kernel
theorem dLW_law_252 : decode code 252 = .ok (.iconst 1, 1) := by decide +kernel
theorem dLW_law_253 : decode code 253 = .ok (.iadd, 1) := by decide +kernel
theorem dLW_law_254 : decode code 254 = .ok (.iaload, 1) := by decide +kernel
theorem dLW_law_255 : decode code 255 = .ok (.aload_n 0, 1) := by decide +kernel
theorem dLW_law_256 : decode code 256 = .ok (.iload_n 3, 1) := by decide +kernel
theorem dLW_law_257 : decode code 257 = .ok (.iconst 2, 1) := by decide +kernel
theorem dLW_law_258 : decode code 258 = .ok (.iadd, 1) := by decide +kernel
theorem dLW_law_259 : decode code 259 = .ok (.iaload, 1) := by decide +kernel
theorem dLW_law_260 : decode code 260 = .ok (.aload_n 0, 1) := by decide +kernel
theorem dLW_law_261 : decode code 261 = .ok (.iload_n 3, 1) := by decide +kernel
theorem dLW_law_262 : decode code 262 = .ok (.iconst 3, 1) := by decide +kernel
theorem dLW_law_263 : decode code 263 = .ok (.iadd, 1) := by decide +kernel
theorem dLW_law_264 : decode code 264 = .ok (.iaload, 1) := by decide +kernel
theorem dLW_law_265 : decode code 265 = .ok (.aload_n 0, 1) := by decide +kernel
theorem dLW_law_266 : decode code 266 = .ok (.iload_n 3, 1) := by decide +kernel
theorem dLW_law_267 : decode code 267 = .ok (.iconst 4, 1) := by decide +kernel
theorem dLW_law_268 : decode code 268 = .ok (.iadd, 1) := by decide +kernel
theorem dLW_law_269 : decode code 269 = .ok (.iaload, 1) := by decide +kernel
theorem dLW_law_270 : decode code 270 = .ok (.aload_n 0, 1) := by decide +kernel
theorem dLW_law_271 : decode code 271 = .ok (.iload_n 3, 1) := by decide +kernel
theorem dLW_law_272 : decode code 272 = .ok (.iconst 5, 1) := by decide +kernel
theorem dLW_law_273 : decode code 273 = .ok (.iadd, 1) := by decide +kernel
theorem dLW_law_274 : decode code 274 = .ok (.iaload, 1) := by decide +kernel
theorem dLW_law_275 : decode code 275 = .ok (.invokevirtual 27, 3) := by decide +kernel
theorem dLW_law_278 : decode code 278 = .ok (.aload_n 2, 1) := by decide +kernel
theorem dLW_law_279 : decode code 279 = .ok (.aload_n 0, 1) := by decide +kernel
theorem dLW_law_280 : decode code 280 = .ok (.iload_n 3, 1) := by decide +kernel
theorem dLW_law_281 : decode code 281 = .ok (.iconst 1, 1) := by decide +kernel
theorem dLW_law_282 : decode code 282 = .ok (.iadd, 1) := by decide +kernel
theorem dLW_law_283 : decode code 283 = .ok (.iaload, 1) := by decide +kernel
theorem dLW_law_284 : decode code 284 = .ok (.aload_n 0, 1) := by decide +kernel
theorem dLW_law_285 : decode code 285 = .ok (.iload_n 3, 1) := by decide +kernel
theorem dLW_law_286 : decode code 286 = .ok (.iconst 2, 1) := by decide +kernel
theorem dLW_law_287 : decode code 287 = .ok (.iadd, 1) := by decide +kernel
theorem dLW_law_288 : decode code 288 = .ok (.iaload, 1) := by decide +kernel
theorem dLW_law_289 : decode code 289 = .ok (.aload_n 0, 1) := by decide +kernel
theorem dLW_law_290 : decode code 290 = .ok (.iload_n 3, 1) := by decide +kernel
theorem dLW_law_291 : decode code 291 = .ok (.iconst 3, 1) := by decide +kernel
theorem dLW_law_292 : decode code 292 = .ok (.iadd, 1) := by decide +kernel
theorem dLW_law_293 : decode code 293 = .ok (.iaload, 1) := by decide +kernel
theorem dLW_law_294 : decode code 294 = .ok (.aload_n 0, 1) := by decide +kernel
theorem dLW_law_295 : decode code 295 = .ok (.iload_n 3, 1) := by decide +kernel
theorem dLW_law_296 : decode code 296 = .ok (.iconst 4, 1) := by decide +kernel
theorem dLW_law_297 : decode code 297 = .ok (.iadd, 1) := by decide +kernel
theorem dLW_law_298 : decode code 298 = .ok (.iaload, 1) := by decide +kernel
theorem dLW_law_299 : decode code 299 = .ok (.aload_n 0, 1) := by decide +kernel
theorem dLW_law_300 : decode code 300 = .ok (.iload_n 3, 1) := by decide +kernel
theorem dLW_law_301 : decode code 301 = .ok (.iconst 5, 1) := by decide +kernel
theorem dLW_law_302 : decode code 302 = .ok (.iadd, 1) := by decide +kernel
theorem dLW_law_303 : decode code 303 = .ok (.iaload, 1) := by decide +kernel
theorem dLW_law_304 : decode code 304 = .ok (.invokevirtual 31, 3) := by decide +kernel
theorem dLW_law_307 : decode code 307 = .ok (.if_icmp .eq 519, 3) := by decide +kernel
theorem dLW_law_310 : decode code 310 = .ok (.iconst 0, 1) := by decide +kernel
theorem dLW_law_311 : decode code 311 = .ok (.ireturn, 1) := by decide +kernel
theorem dLW_law_312 : decode code 312 = .ok (.aload_n 1, 1) := by decide +kernel
theorem dLW_law_313 : decode code 313 = .ok (.aload_n 0, 1) := by decide +kernel
theorem dLW_law_314 : decode code 314 = .ok (.iload_n 3, 1) := by decide +kernel
theorem dLW_law_315 : decode code 315 = .ok (.iconst 1, 1) := by decide +kernel
theorem dLW_law_316 : decode code 316 = .ok (.iadd, 1) := by decide +kernel
theorem dLW_law_317 : decode code 317 = .ok (.iaload, 1) := by decide +kernel
theorem dLW_law_318 : decode code 318 = .ok (.aload_n 0, 1) := by decide +kernel
theorem dLW_law_319 : decode code 319 = .ok (.iload_n 3, 1) := by decide +kernel
theorem dLW_law_320 : decode code 320 = .ok (.iconst 2, 1) := by decide +kernel
theorem dLW_law_321 : decode code 321 = .ok (.iadd, 1) := by decide +kernel
theorem dLW_law_322 : decode code 322 = .ok (.iaload, 1) := by decide +kernel
theorem dLW_law_323 : decode code 323 = .ok (.aload_n 0, 1) := by decide +kernel
theorem dLW_law_324 : decode code 324 = .ok (.iload_n 3, 1) := by decide +kernel
theorem dLW_law_325 : decode code 325 = .ok (.iconst 3, 1) := by decide +kernel
theorem dLW_law_326 : decode code 326 = .ok (.iadd, 1) := by decide +kernel
theorem dLW_law_327 : decode code 327 = .ok (.iaload, 1) := by decide +kernel
theorem dLW_law_328 : decode code 328 = .ok (.invokevirtual 32, 3) := by decide +kernel
theorem dLW_law_331 : decode code 331 = .ok (.aload_n 2, 1) := by decide +kernel
theorem dLW_law_332 : decode code 332 = .ok (.aload_n 0, 1) := by decide +kernel
theorem dLW_law_333 : decode code 333 = .ok (.iload_n 3, 1) := by decide +kernel
theorem dLW_law_334 : decode code 334 = .ok (.iconst 1, 1) := by decide +kernel
theorem dLW_law_335 : decode code 335 = .ok (.iadd, 1) := by decide +kernel
theorem dLW_law_336 : decode code 336 = .ok (.iaload, 1) := by decide +kernel
theorem dLW_law_337 : decode code 337 = .ok (.aload_n 0, 1) := by decide +kernel
theorem dLW_law_338 : decode code 338 = .ok (.iload_n 3, 1) := by decide +kernel
theorem dLW_law_339 : decode code 339 = .ok (.iconst 2, 1) := by decide +kernel
theorem dLW_law_340 : decode code 340 = .ok (.iadd, 1) := by decide +kernel
theorem dLW_law_341 : decode code 341 = .ok (.iaload, 1) := by decide +kernel
theorem dLW_law_342 : decode code 342 = .ok (.aload_n 0, 1) := by decide +kernel
theorem dLW_law_343 : decode code 343 = .ok (.iload_n 3, 1) := by decide +kernel
theorem dLW_law_344 : decode code 344 = .ok (.iconst 3, 1) := by decide +kernel
theorem dLW_law_345 : decode code 345 = .ok (.iadd, 1) := by decide +kernel
theorem dLW_law_346 : decode code 346 = .ok (.iaload, 1) := by decide +kernel
theorem dLW_law_347 : decode code 347 = .ok (.invokevirtual 36, 3) := by decide +kernel
theorem dLW_law_350 : decode code 350 = .ok (.if_icmp .eq 476, 3) := by decide +kernel
theorem dLW_law_353 : decode code 353 = .ok (.iconst 0, 1) := by decide +kernel
theorem dLW_law_354 : decode code 354 = .ok (.ireturn, 1) := by decide +kernel
theorem dLW_law_355 : decode code 355 = .ok (.aload_n 1, 1) := by decide +kernel
theorem dLW_law_356 : decode code 356 = .ok (.aload_n 0, 1) := by decide +kernel
theorem dLW_law_357 : decode code 357 = .ok (.iload_n 3, 1) := by decide +kernel
theorem dLW_law_358 : decode code 358 = .ok (.iconst 1, 1) := by decide +kernel
theorem dLW_law_359 : decode code 359 = .ok (.iadd, 1) := by decide +kernel
theorem dLW_law_360 : decode code 360 = .ok (.iaload, 1) := by decide +kernel
theorem dLW_law_361 : decode code 361 = .ok (.invokevirtual 37, 3) := by decide +kernel
theorem dLW_law_364 : decode code 364 = .ok (.aload_n 2, 1) := by decide +kernel
theorem dLW_law_365 : decode code 365 = .ok (.aload_n 0, 1) := by decide +kernel
theorem dLW_law_366 : decode code 366 = .ok (.iload_n 3, 1) := by decide +kernel
theorem dLW_law_367 : decode code 367 = .ok (.iconst 1, 1) := by decide +kernel
theorem dLW_law_368 : decode code 368 = .ok (.iadd, 1) := by decide +kernel
theorem dLW_law_369 : decode code 369 = .ok (.iaload, 1) := by decide +kernel
theorem dLW_law_370 : decode code 370 = .ok (.invokevirtual 40, 3) := by decide +kernel
theorem dLW_law_373 : decode code 373 = .ok (.if_icmp .eq 453, 3) := by decide +kernel
theorem dLW_law_376 : decode code 376 = .ok (.iconst 0, 1) := by decide +kernel
theorem dLW_law_377 : decode code 377 = .ok (.ireturn, 1) := by decide +kernel
theorem dLW_law_378 : decode code 378 = .ok (.aload_n 1, 1) := by decide +kernel
theorem dLW_law_379 : decode code 379 = .ok (.aload_n 0, 1) := by decide +kernel
theorem dLW_law_380 : decode code 380 = .ok (.iload_n 3, 1) := by decide +kernel
theorem dLW_law_381 : decode code 381 = .ok (.iconst 1, 1) := by decide +kernel
theorem dLW_law_382 : decode code 382 = .ok (.iadd, 1) := by decide +kernel
theorem dLW_law_383 : decode code 383 = .ok (.iaload, 1) := by decide +kernel
theorem dLW_law_384 : decode code 384 = .ok (.aload_n 0, 1) := by decide +kernel
theorem dLW_law_385 : decode code 385 = .ok (.iload_n 3, 1) := by decide +kernel
theorem dLW_law_386 : decode code 386 = .ok (.iconst 2, 1) := by decide +kernel
theorem dLW_law_387 : decode code 387 = .ok (.iadd, 1) := by decide +kernel
theorem dLW_law_388 : decode code 388 = .ok (.iaload, 1) := by decide +kernel
theorem dLW_law_389 : decode code 389 = .ok (.aload_n 0, 1) := by decide +kernel
theorem dLW_law_390 : decode code 390 = .ok (.iload_n 3, 1) := by decide +kernel
theorem dLW_law_391 : decode code 391 = .ok (.iconst 3, 1) := by decide +kernel
theorem dLW_law_392 : decode code 392 = .ok (.iadd, 1) := by decide +kernel
theorem dLW_law_393 : decode code 393 = .ok (.iaload, 1) := by decide +kernel
theorem dLW_law_394 : decode code 394 = .ok (.aload_n 0, 1) := by decide +kernel
theorem dLW_law_395 : decode code 395 = .ok (.iload_n 3, 1) := by decide +kernel
theorem dLW_law_396 : decode code 396 = .ok (.iconst 4, 1) := by decide +kernel
theorem dLW_law_397 : decode code 397 = .ok (.iadd, 1) := by decide +kernel
theorem dLW_law_398 : decode code 398 = .ok (.iaload, 1) := by decide +kernel
theorem dLW_law_399 : decode code 399 = .ok (.invokevirtual 41, 3) := by decide +kernel
theorem dLW_law_402 : decode code 402 = .ok (.aload_n 2, 1) := by decide +kernel
theorem dLW_law_403 : decode code 403 = .ok (.aload_n 0, 1) := by decide +kernel
theorem dLW_law_404 : decode code 404 = .ok (.iload_n 3, 1) := by decide +kernel
theorem dLW_law_405 : decode code 405 = .ok (.iconst 1, 1) := by decide +kernel
theorem dLW_law_406 : decode code 406 = .ok (.iadd, 1) := by decide +kernel
theorem dLW_law_407 : decode code 407 = .ok (.iaload, 1) := by decide +kernel
theorem dLW_law_408 : decode code 408 = .ok (.aload_n 0, 1) := by decide +kernel
theorem dLW_law_409 : decode code 409 = .ok (.iload_n 3, 1) := by decide +kernel
theorem dLW_law_410 : decode code 410 = .ok (.iconst 2, 1) := by decide +kernel
theorem dLW_law_411 : decode code 411 = .ok (.iadd, 1) := by decide +kernel
theorem dLW_law_412 : decode code 412 = .ok (.iaload, 1) := by decide +kernel
theorem dLW_law_413 : decode code 413 = .ok (.aload_n 0, 1) := by decide +kernel
theorem dLW_law_414 : decode code 414 = .ok (.iload_n 3, 1) := by decide +kernel
theorem dLW_law_415 : decode code 415 = .ok (.iconst 3, 1) := by decide +kernel
theorem dLW_law_416 : decode code 416 = .ok (.iadd, 1) := by decide +kernel
theorem dLW_law_417 : decode code 417 = .ok (.iaload, 1) := by decide +kernel
theorem dLW_law_418 : decode code 418 = .ok (.aload_n 0, 1) := by decide +kernel
theorem dLW_law_419 : decode code 419 = .ok (.iload_n 3, 1) := by decide +kernel
theorem dLW_law_420 : decode code 420 = .ok (.iconst 4, 1) := by decide +kernel
theorem dLW_law_421 : decode code 421 = .ok (.iadd, 1) := by decide +kernel
theorem dLW_law_422 : decode code 422 = .ok (.iaload, 1) := by decide +kernel
theorem dLW_law_423 : decode code 423 = .ok (.invokevirtual 44, 3) := by decide +kernel
theorem dLW_law_426 : decode code 426 = .ok (.if_icmp .eq 400, 3) := by decide +kernel
theorem dLW_law_429 : decode code 429 = .ok (.iconst 0, 1) := by decide +kernel
theorem dLW_law_430 : decode code 430 = .ok (.ireturn, 1) := by decide +kernel
theorem dLW_law_431 : decode code 431 = .ok (.aload_n 1, 1) := by decide +kernel
theorem dLW_law_432 : decode code 432 = .ok (.aload_n 0, 1) := by decide +kernel
theorem dLW_law_433 : decode code 433 = .ok (.iload_n 3, 1) := by decide +kernel
theorem dLW_law_434 : decode code 434 = .ok (.iconst 1, 1) := by decide +kernel
theorem dLW_law_435 : decode code 435 = .ok (.iadd, 1) := by decide +kernel
theorem dLW_law_436 : decode code 436 = .ok (.iaload, 1) := by decide +kernel
theorem dLW_law_437 : decode code 437 = .ok (.aload_n 0, 1) := by decide +kernel
theorem dLW_law_438 : decode code 438 = .ok (.iload_n 3, 1) := by decide +kernel
theorem dLW_law_439 : decode code 439 = .ok (.iconst 2, 1) := by decide +kernel
theorem dLW_law_440 : decode code 440 = .ok (.iadd, 1) := by decide +kernel
theorem dLW_law_441 : decode code 441 = .ok (.iaload, 1) := by decide +kernel
theorem dLW_law_442 : decode code 442 = .ok (.aload_n 0, 1) := by decide +kernel
theorem dLW_law_443 : decode code 443 = .ok (.iload_n 3, 1) := by decide +kernel
theorem dLW_law_444 : decode code 444 = .ok (.iconst 3, 1) := by decide +kernel
theorem dLW_law_445 : decode code 445 = .ok (.iadd, 1) := by decide +kernel
theorem dLW_law_446 : decode code 446 = .ok (.iaload, 1) := by decide +kernel
theorem dLW_law_447 : decode code 447 = .ok (.aload_n 0, 1) := by decide +kernel
theorem dLW_law_448 : decode code 448 = .ok (.iload_n 3, 1) := by decide +kernel
theorem dLW_law_449 : decode code 449 = .ok (.iconst 4, 1) := by decide +kernel
theorem dLW_law_450 : decode code 450 = .ok (.iadd, 1) := by decide +kernel
theorem dLW_law_451 : decode code 451 = .ok (.iaload, 1) := by decide +kernel
theorem dLW_law_452 : decode code 452 = .ok (.aload_n 0, 1) := by decide +kernel
theorem dLW_law_453 : decode code 453 = .ok (.iload_n 3, 1) := by decide +kernel
theorem dLW_law_454 : decode code 454 = .ok (.iconst 5, 1) := by decide +kernel
theorem dLW_law_455 : decode code 455 = .ok (.iadd, 1) := by decide +kernel
theorem dLW_law_456 : decode code 456 = .ok (.iaload, 1) := by decide +kernel
theorem dLW_law_457 : decode code 457 = .ok (.invokevirtual 45, 3) := by decide +kernel
theorem dLW_law_460 : decode code 460 = .ok (.aload_n 2, 1) := by decide +kernel
theorem dLW_law_461 : decode code 461 = .ok (.aload_n 0, 1) := by decide +kernel
theorem dLW_law_462 : decode code 462 = .ok (.iload_n 3, 1) := by decide +kernel
theorem dLW_law_463 : decode code 463 = .ok (.iconst 1, 1) := by decide +kernel
theorem dLW_law_464 : decode code 464 = .ok (.iadd, 1) := by decide +kernel
theorem dLW_law_465 : decode code 465 = .ok (.iaload, 1) := by decide +kernel
theorem dLW_law_466 : decode code 466 = .ok (.aload_n 0, 1) := by decide +kernel
theorem dLW_law_467 : decode code 467 = .ok (.iload_n 3, 1) := by decide +kernel
theorem dLW_law_468 : decode code 468 = .ok (.iconst 2, 1) := by decide +kernel
theorem dLW_law_469 : decode code 469 = .ok (.iadd, 1) := by decide +kernel
theorem dLW_law_470 : decode code 470 = .ok (.iaload, 1) := by decide +kernel
theorem dLW_law_471 : decode code 471 = .ok (.aload_n 0, 1) := by decide +kernel
theorem dLW_law_472 : decode code 472 = .ok (.iload_n 3, 1) := by decide +kernel
theorem dLW_law_473 : decode code 473 = .ok (.iconst 3, 1) := by decide +kernel
theorem dLW_law_474 : decode code 474 = .ok (.iadd, 1) := by decide +kernel
theorem dLW_law_475 : decode code 475 = .ok (.iaload, 1) := by decide +kernel
theorem dLW_law_476 : decode code 476 = .ok (.aload_n 0, 1) := by decide +kernel
theorem dLW_law_477 : decode code 477 = .ok (.iload_n 3, 1) := by decide +kernel
theorem dLW_law_478 : decode code 478 = .ok (.iconst 4, 1) := by decide +kernel
theorem dLW_law_479 : decode code 479 = .ok (.iadd, 1) := by decide +kernel
theorem dLW_law_480 : decode code 480 = .ok (.iaload, 1) := by decide +kernel
theorem dLW_law_481 : decode code 481 = .ok (.aload_n 0, 1) := by decide +kernel
theorem dLW_law_482 : decode code 482 = .ok (.iload_n 3, 1) := by decide +kernel
theorem dLW_law_483 : decode code 483 = .ok (.iconst 5, 1) := by decide +kernel
theorem dLW_law_484 : decode code 484 = .ok (.iadd, 1) := by decide +kernel
theorem dLW_law_485 : decode code 485 = .ok (.iaload, 1) := by decide +kernel
theorem dLW_law_486 : decode code 486 = .ok (.invokevirtual 48, 3) := by decide +kernel
theorem dLW_law_489 : decode code 489 = .ok (.if_icmp .eq 337, 3) := by decide +kernel
theorem dLW_law_492 : decode code 492 = .ok (.iconst 0, 1) := by decide +kernel
theorem dLW_law_493 : decode code 493 = .ok (.ireturn, 1) := by decide +kernel
theorem dLW_law_494 : decode code 494 = .ok (.aload_n 1, 1) := by decide +kernel
theorem dLW_law_495 : decode code 495 = .ok (.invokevirtual 49, 3) := by decide +kernel
theorem dLW_law_498 : decode code 498 = .ok (.aload_n 2, 1) := by decide +kernel
theorem dLW_law_499 : decode code 499 = .ok (.invokevirtual 53, 3) := by decide +kernel
theorem dLW_law_502 : decode code 502 = .ok (.if_icmp .eq 324, 3) := by decide +kernel
theorem dLW_law_505 : decode code 505 = .ok (.iconst 0, 1) := by decide +kernel
theorem dLW_law_506 : decode code 506 = .ok (.ireturn, 1) := by decide +kernel
theorem dLW_law_507 : decode code 507 = .ok (.aload_n 1, 1) := by decide +kernel
theorem dLW_law_508 : decode code 508 = .ok (.invokevirtual 54, 3) := by decide +kernel
theorem dLW_law_511 : decode code 511 = .ok (.aload_n 2, 1) := by decide +kernel
theorem dLW_law_512 : decode code 512 = .ok (.invokevirtual 57, 3) := by decide +kernel
theorem dLW_law_515 : decode code 515 = .ok (.if_icmp .eq 311, 3) := by decide +kernel
theorem dLW_law_518 : decode code 518 = .ok (.iconst 0, 1) := by decide +kernel
theorem dLW_law_519 : decode code 519 = .ok (.ireturn, 1) := by decide +kernel
theorem dLW_law_520 : decode code 520 = .ok (.aload_n 1, 1) := by decide +kernel
theorem dLW_law_521 : decode code 521 = .ok (.aload_n 0, 1) := by decide +kernel
theorem dLW_law_522 : decode code 522 = .ok (.iload_n 3, 1) := by decide +kernel
theorem dLW_law_523 : decode code 523 = .ok (.iconst 1, 1) := by decide +kernel
theorem dLW_law_524 : decode code 524 = .ok (.iadd, 1) := by decide +kernel
theorem dLW_law_525 : decode code 525 = .ok (.iaload, 1) := by decide +kernel
theorem dLW_law_526 : decode code 526 = .ok (.aload_n 0, 1) := by decide +kernel
theorem dLW_law_527 : decode code 527 = .ok (.iload_n 3, 1) := by decide +kernel
theorem dLW_law_528 : decode code 528 = .ok (.iconst 2, 1) := by decide +kernel
theorem dLW_law_529 : decode code 529 = .ok (.iadd, 1) := by decide +kernel
theorem dLW_law_530 : decode code 530 = .ok (.iaload, 1) := by decide +kernel
theorem dLW_law_531 : decode code 531 = .ok (.aload_n 0, 1) := by decide +kernel
theorem dLW_law_532 : decode code 532 = .ok (.iload_n 3, 1) := by decide +kernel
theorem dLW_law_533 : decode code 533 = .ok (.iconst 3, 1) := by decide +kernel
theorem dLW_law_534 : decode code 534 = .ok (.iadd, 1) := by decide +kernel
theorem dLW_law_535 : decode code 535 = .ok (.iaload, 1) := by decide +kernel
theorem dLW_law_536 : decode code 536 = .ok (.aload_n 0, 1) := by decide +kernel
theorem dLW_law_537 : decode code 537 = .ok (.iload_n 3, 1) := by decide +kernel
theorem dLW_law_538 : decode code 538 = .ok (.iconst 4, 1) := by decide +kernel
theorem dLW_law_539 : decode code 539 = .ok (.iadd, 1) := by decide +kernel
theorem dLW_law_540 : decode code 540 = .ok (.iaload, 1) := by decide +kernel
theorem dLW_law_541 : decode code 541 = .ok (.invokevirtual 58, 3) := by decide +kernel
theorem dLW_law_544 : decode code 544 = .ok (.aload_n 2, 1) := by decide +kernel
theorem dLW_law_545 : decode code 545 = .ok (.aload_n 0, 1) := by decide +kernel
theorem dLW_law_546 : decode code 546 = .ok (.iload_n 3, 1) := by decide +kernel
theorem dLW_law_547 : decode code 547 = .ok (.iconst 1, 1) := by decide +kernel
theorem dLW_law_548 : decode code 548 = .ok (.iadd, 1) := by decide +kernel
theorem dLW_law_549 : decode code 549 = .ok (.iaload, 1) := by decide +kernel
theorem dLW_law_550 : decode code 550 = .ok (.aload_n 0, 1) := by decide +kernel
theorem dLW_law_551 : decode code 551 = .ok (.iload_n 3, 1) := by decide +kernel
theorem dLW_law_552 : decode code 552 = .ok (.iconst 2, 1) := by decide +kernel
theorem dLW_law_553 : decode code 553 = .ok (.iadd, 1) := by decide +kernel
theorem dLW_law_554 : decode code 554 = .ok (.iaload, 1) := by decide +kernel
theorem dLW_law_555 : decode code 555 = .ok (.aload_n 0, 1) := by decide +kernel
theorem dLW_law_556 : decode code 556 = .ok (.iload_n 3, 1) := by decide +kernel
theorem dLW_law_557 : decode code 557 = .ok (.iconst 3, 1) := by decide +kernel
theorem dLW_law_558 : decode code 558 = .ok (.iadd, 1) := by decide +kernel
theorem dLW_law_559 : decode code 559 = .ok (.iaload, 1) := by decide +kernel
theorem dLW_law_560 : decode code 560 = .ok (.aload_n 0, 1) := by decide +kernel
theorem dLW_law_561 : decode code 561 = .ok (.iload_n 3, 1) := by decide +kernel
theorem dLW_law_562 : decode code 562 = .ok (.iconst 4, 1) := by decide +kernel
theorem dLW_law_563 : decode code 563 = .ok (.iadd, 1) := by decide +kernel
theorem dLW_law_564 : decode code 564 = .ok (.iaload, 1) := by decide +kernel
theorem dLW_law_565 : decode code 565 = .ok (.invokevirtual 62, 3) := by decide +kernel
theorem dLW_law_568 : decode code 568 = .ok (.lcmp, 1) := by decide +kernel
theorem dLW_law_569 : decode code 569 = .ok (.ifCond .eq 257, 3) := by decide +kernel
theorem dLW_law_572 : decode code 572 = .ok (.iconst 0, 1) := by decide +kernel
theorem dLW_law_573 : decode code 573 = .ok (.ireturn, 1) := by decide +kernel
theorem dLW_law_574 : decode code 574 = .ok (.aload_n 1, 1) := by decide +kernel
theorem dLW_law_575 : decode code 575 = .ok (.aload_n 0, 1) := by decide +kernel
theorem dLW_law_576 : decode code 576 = .ok (.iload_n 3, 1) := by decide +kernel
theorem dLW_law_577 : decode code 577 = .ok (.iconst 1, 1) := by decide +kernel
theorem dLW_law_578 : decode code 578 = .ok (.iadd, 1) := by decide +kernel
theorem dLW_law_579 : decode code 579 = .ok (.iaload, 1) := by decide +kernel
theorem dLW_law_580 : decode code 580 = .ok (.aload_n 0, 1) := by decide +kernel
theorem dLW_law_581 : decode code 581 = .ok (.iload_n 3, 1) := by decide +kernel
theorem dLW_law_582 : decode code 582 = .ok (.iconst 2, 1) := by decide +kernel
theorem dLW_law_583 : decode code 583 = .ok (.iadd, 1) := by decide +kernel
theorem dLW_law_584 : decode code 584 = .ok (.iaload, 1) := by decide +kernel
theorem dLW_law_585 : decode code 585 = .ok (.aload_n 0, 1) := by decide +kernel
theorem dLW_law_586 : decode code 586 = .ok (.iload_n 3, 1) := by decide +kernel
theorem dLW_law_587 : decode code 587 = .ok (.iconst 3, 1) := by decide +kernel
theorem dLW_law_588 : decode code 588 = .ok (.iadd, 1) := by decide +kernel
theorem dLW_law_589 : decode code 589 = .ok (.iaload, 1) := by decide +kernel
theorem dLW_law_590 : decode code 590 = .ok (.aload_n 0, 1) := by decide +kernel
theorem dLW_law_591 : decode code 591 = .ok (.iload_n 3, 1) := by decide +kernel
theorem dLW_law_592 : decode code 592 = .ok (.iconst 4, 1) := by decide +kernel
theorem dLW_law_593 : decode code 593 = .ok (.iadd, 1) := by decide +kernel
theorem dLW_law_594 : decode code 594 = .ok (.iaload, 1) := by decide +kernel
theorem dLW_law_595 : decode code 595 = .ok (.invokevirtual 63, 3) := by decide +kernel
theorem dLW_law_598 : decode code 598 = .ok (.aload_n 2, 1) := by decide +kernel
theorem dLW_law_599 : decode code 599 = .ok (.aload_n 0, 1) := by decide +kernel
theorem dLW_law_600 : decode code 600 = .ok (.iload_n 3, 1) := by decide +kernel
theorem dLW_law_601 : decode code 601 = .ok (.iconst 1, 1) := by decide +kernel
theorem dLW_law_602 : decode code 602 = .ok (.iadd, 1) := by decide +kernel
theorem dLW_law_603 : decode code 603 = .ok (.iaload, 1) := by decide +kernel
theorem dLW_law_604 : decode code 604 = .ok (.aload_n 0, 1) := by decide +kernel
theorem dLW_law_605 : decode code 605 = .ok (.iload_n 3, 1) := by decide +kernel
theorem dLW_law_606 : decode code 606 = .ok (.iconst 2, 1) := by decide +kernel
theorem dLW_law_607 : decode code 607 = .ok (.iadd, 1) := by decide +kernel
theorem dLW_law_608 : decode code 608 = .ok (.iaload, 1) := by decide +kernel
theorem dLW_law_609 : decode code 609 = .ok (.aload_n 0, 1) := by decide +kernel
theorem dLW_law_610 : decode code 610 = .ok (.iload_n 3, 1) := by decide +kernel
theorem dLW_law_611 : decode code 611 = .ok (.iconst 3, 1) := by decide +kernel
theorem dLW_law_612 : decode code 612 = .ok (.iadd, 1) := by decide +kernel
theorem dLW_law_613 : decode code 613 = .ok (.iaload, 1) := by decide +kernel
theorem dLW_law_614 : decode code 614 = .ok (.aload_n 0, 1) := by decide +kernel
theorem dLW_law_615 : decode code 615 = .ok (.iload_n 3, 1) := by decide +kernel
theorem dLW_law_616 : decode code 616 = .ok (.iconst 4, 1) := by decide +kernel
theorem dLW_law_617 : decode code 617 = .ok (.iadd, 1) := by decide +kernel
theorem dLW_law_618 : decode code 618 = .ok (.iaload, 1) := by decide +kernel
theorem dLW_law_619 : decode code 619 = .ok (.invokevirtual 66, 3) := by decide +kernel
theorem dLW_law_622 : decode code 622 = .ok (.lcmp, 1) := by decide +kernel
theorem dLW_law_623 : decode code 623 = .ok (.ifCond .eq 203, 3) := by decide +kernel
theorem dLW_law_626 : decode code 626 = .ok (.iconst 0, 1) := by decide +kernel
theorem dLW_law_627 : decode code 627 = .ok (.ireturn, 1) := by decide +kernel
theorem dLW_law_628 : decode code 628 = .ok (.aload_n 1, 1) := by decide +kernel
theorem dLW_law_629 : decode code 629 = .ok (.aload_n 0, 1) := by decide +kernel
theorem dLW_law_630 : decode code 630 = .ok (.iload_n 3, 1) := by decide +kernel
theorem dLW_law_631 : decode code 631 = .ok (.iconst 1, 1) := by decide +kernel
theorem dLW_law_632 : decode code 632 = .ok (.iadd, 1) := by decide +kernel
theorem dLW_law_633 : decode code 633 = .ok (.iaload, 1) := by decide +kernel
theorem dLW_law_634 : decode code 634 = .ok (.invokevirtual 67, 3) := by decide +kernel
theorem dLW_law_637 : decode code 637 = .ok (.aload_n 2, 1) := by decide +kernel
theorem dLW_law_638 : decode code 638 = .ok (.aload_n 0, 1) := by decide +kernel
theorem dLW_law_639 : decode code 639 = .ok (.iload_n 3, 1) := by decide +kernel
theorem dLW_law_640 : decode code 640 = .ok (.iconst 1, 1) := by decide +kernel
theorem dLW_law_641 : decode code 641 = .ok (.iadd, 1) := by decide +kernel
theorem dLW_law_642 : decode code 642 = .ok (.iaload, 1) := by decide +kernel
theorem dLW_law_643 : decode code 643 = .ok (.invokevirtual 70, 3) := by decide +kernel
theorem dLW_law_646 : decode code 646 = .ok (.if_icmp .eq 180, 3) := by decide +kernel
theorem dLW_law_649 : decode code 649 = .ok (.iconst 0, 1) := by decide +kernel
theorem dLW_law_650 : decode code 650 = .ok (.ireturn, 1) := by decide +kernel
theorem dLW_law_651 : decode code 651 = .ok (.aload_n 1, 1) := by decide +kernel
theorem dLW_law_652 : decode code 652 = .ok (.aload_n 0, 1) := by decide +kernel
theorem dLW_law_653 : decode code 653 = .ok (.iload_n 3, 1) := by decide +kernel
theorem dLW_law_654 : decode code 654 = .ok (.iconst 1, 1) := by decide +kernel
theorem dLW_law_655 : decode code 655 = .ok (.iadd, 1) := by decide +kernel
theorem dLW_law_656 : decode code 656 = .ok (.iaload, 1) := by decide +kernel
theorem dLW_law_657 : decode code 657 = .ok (.aload_n 0, 1) := by decide +kernel
theorem dLW_law_658 : decode code 658 = .ok (.iload_n 3, 1) := by decide +kernel
theorem dLW_law_659 : decode code 659 = .ok (.iconst 2, 1) := by decide +kernel
theorem dLW_law_660 : decode code 660 = .ok (.iadd, 1) := by decide +kernel
theorem dLW_law_661 : decode code 661 = .ok (.iaload, 1) := by decide +kernel
theorem dLW_law_662 : decode code 662 = .ok (.aload_n 0, 1) := by decide +kernel
theorem dLW_law_663 : decode code 663 = .ok (.iload_n 3, 1) := by decide +kernel
theorem dLW_law_664 : decode code 664 = .ok (.iconst 3, 1) := by decide +kernel
theorem dLW_law_665 : decode code 665 = .ok (.iadd, 1) := by decide +kernel
theorem dLW_law_666 : decode code 666 = .ok (.iaload, 1) := by decide +kernel
theorem dLW_law_667 : decode code 667 = .ok (.invokevirtual 71, 3) := by decide +kernel
theorem dLW_law_670 : decode code 670 = .ok (.aload_n 2, 1) := by decide +kernel
theorem dLW_law_671 : decode code 671 = .ok (.aload_n 0, 1) := by decide +kernel
theorem dLW_law_672 : decode code 672 = .ok (.iload_n 3, 1) := by decide +kernel
theorem dLW_law_673 : decode code 673 = .ok (.iconst 1, 1) := by decide +kernel
theorem dLW_law_674 : decode code 674 = .ok (.iadd, 1) := by decide +kernel
theorem dLW_law_675 : decode code 675 = .ok (.iaload, 1) := by decide +kernel
theorem dLW_law_676 : decode code 676 = .ok (.aload_n 0, 1) := by decide +kernel
theorem dLW_law_677 : decode code 677 = .ok (.iload_n 3, 1) := by decide +kernel
theorem dLW_law_678 : decode code 678 = .ok (.iconst 2, 1) := by decide +kernel
theorem dLW_law_679 : decode code 679 = .ok (.iadd, 1) := by decide +kernel
theorem dLW_law_680 : decode code 680 = .ok (.iaload, 1) := by decide +kernel
theorem dLW_law_681 : decode code 681 = .ok (.aload_n 0, 1) := by decide +kernel
theorem dLW_law_682 : decode code 682 = .ok (.iload_n 3, 1) := by decide +kernel
theorem dLW_law_683 : decode code 683 = .ok (.iconst 3, 1) := by decide +kernel
theorem dLW_law_684 : decode code 684 = .ok (.iadd, 1) := by decide +kernel
theorem dLW_law_685 : decode code 685 = .ok (.iaload, 1) := by decide +kernel
theorem dLW_law_686 : decode code 686 = .ok (.invokevirtual 75, 3) := by decide +kernel
theorem dLW_law_689 : decode code 689 = .ok (.lcmp, 1) := by decide +kernel
theorem dLW_law_690 : decode code 690 = .ok (.ifCond .eq 136, 3) := by decide +kernel
theorem dLW_law_693 : decode code 693 = .ok (.iconst 0, 1) := by decide +kernel
theorem dLW_law_694 : decode code 694 = .ok (.ireturn, 1) := by decide +kernel
theorem dLW_law_695 : decode code 695 = .ok (.aload_n 1, 1) := by decide +kernel
theorem dLW_law_696 : decode code 696 = .ok (.aload_n 0, 1) := by decide +kernel
theorem dLW_law_697 : decode code 697 = .ok (.iload_n 3, 1) := by decide +kernel
theorem dLW_law_698 : decode code 698 = .ok (.iconst 1, 1) := by decide +kernel
theorem dLW_law_699 : decode code 699 = .ok (.iadd, 1) := by decide +kernel
theorem dLW_law_700 : decode code 700 = .ok (.iaload, 1) := by decide +kernel
theorem dLW_law_701 : decode code 701 = .ok (.invokevirtual 76, 3) := by decide +kernel
theorem dLW_law_704 : decode code 704 = .ok (.aload_n 2, 1) := by decide +kernel
theorem dLW_law_705 : decode code 705 = .ok (.aload_n 0, 1) := by decide +kernel
theorem dLW_law_706 : decode code 706 = .ok (.iload_n 3, 1) := by decide +kernel
theorem dLW_law_707 : decode code 707 = .ok (.iconst 1, 1) := by decide +kernel
theorem dLW_law_708 : decode code 708 = .ok (.iadd, 1) := by decide +kernel
theorem dLW_law_709 : decode code 709 = .ok (.iaload, 1) := by decide +kernel
theorem dLW_law_710 : decode code 710 = .ok (.invokevirtual 80, 3) := by decide +kernel
theorem dLW_law_713 : decode code 713 = .ok (.lcmp, 1) := by decide +kernel
theorem dLW_law_714 : decode code 714 = .ok (.ifCond .eq 112, 3) := by decide +kernel
theorem dLW_law_717 : decode code 717 = .ok (.iconst 0, 1) := by decide +kernel
theorem dLW_law_718 : decode code 718 = .ok (.ireturn, 1) := by decide +kernel
theorem dLW_law_719 : decode code 719 = .ok (.aload_n 1, 1) := by decide +kernel
theorem dLW_law_720 : decode code 720 = .ok (.aload_n 0, 1) := by decide +kernel
theorem dLW_law_721 : decode code 721 = .ok (.iload_n 3, 1) := by decide +kernel
theorem dLW_law_722 : decode code 722 = .ok (.iconst 1, 1) := by decide +kernel
theorem dLW_law_723 : decode code 723 = .ok (.iadd, 1) := by decide +kernel
theorem dLW_law_724 : decode code 724 = .ok (.iaload, 1) := by decide +kernel
theorem dLW_law_725 : decode code 725 = .ok (.invokevirtual 81, 3) := by decide +kernel
theorem dLW_law_728 : decode code 728 = .ok (.aload_n 2, 1) := by decide +kernel
theorem dLW_law_729 : decode code 729 = .ok (.aload_n 0, 1) := by decide +kernel
theorem dLW_law_730 : decode code 730 = .ok (.iload_n 3, 1) := by decide +kernel
theorem dLW_law_731 : decode code 731 = .ok (.iconst 1, 1) := by decide +kernel
theorem dLW_law_732 : decode code 732 = .ok (.iadd, 1) := by decide +kernel
theorem dLW_law_733 : decode code 733 = .ok (.iaload, 1) := by decide +kernel
theorem dLW_law_734 : decode code 734 = .ok (.invokevirtual 84, 3) := by decide +kernel
theorem dLW_law_737 : decode code 737 = .ok (.if_icmp .eq 89, 3) := by decide +kernel
theorem dLW_law_740 : decode code 740 = .ok (.iconst 0, 1) := by decide +kernel
theorem dLW_law_741 : decode code 741 = .ok (.ireturn, 1) := by decide +kernel
theorem dLW_law_742 : decode code 742 = .ok (.aload_n 1, 1) := by decide +kernel
theorem dLW_law_743 : decode code 743 = .ok (.aload_n 0, 1) := by decide +kernel
theorem dLW_law_744 : decode code 744 = .ok (.iload_n 3, 1) := by decide +kernel
theorem dLW_law_745 : decode code 745 = .ok (.iconst 1, 1) := by decide +kernel
theorem dLW_law_746 : decode code 746 = .ok (.iadd, 1) := by decide +kernel
theorem dLW_law_747 : decode code 747 = .ok (.iaload, 1) := by decide +kernel
theorem dLW_law_748 : decode code 748 = .ok (.aload_n 0, 1) := by decide +kernel
theorem dLW_law_749 : decode code 749 = .ok (.iload_n 3, 1) := by decide +kernel
theorem dLW_law_750 : decode code 750 = .ok (.iconst 2, 1) := by decide +kernel
theorem dLW_law_751 : decode code 751 = .ok (.iadd, 1) := by decide +kernel
theorem dLW_law_752 : decode code 752 = .ok (.iaload, 1) := by decide +kernel
theorem dLW_law_753 : decode code 753 = .ok (.invokevirtual 85, 3) := by decide +kernel
theorem dLW_law_756 : decode code 756 = .ok (.dstore 4, 2) := by decide +kernel
theorem dLW_law_758 : decode code 758 = .ok (.aload_n 2, 1) := by decide +kernel
theorem dLW_law_759 : decode code 759 = .ok (.aload_n 0, 1) := by decide +kernel
theorem dLW_law_760 : decode code 760 = .ok (.iload_n 3, 1) := by decide +kernel
theorem dLW_law_761 : decode code 761 = .ok (.iconst 1, 1) := by decide +kernel
theorem dLW_law_762 : decode code 762 = .ok (.iadd, 1) := by decide +kernel
theorem dLW_law_763 : decode code 763 = .ok (.iaload, 1) := by decide +kernel
theorem dLW_law_764 : decode code 764 = .ok (.aload_n 0, 1) := by decide +kernel
theorem dLW_law_765 : decode code 765 = .ok (.iload_n 3, 1) := by decide +kernel
theorem dLW_law_766 : decode code 766 = .ok (.iconst 2, 1) := by decide +kernel
theorem dLW_law_767 : decode code 767 = .ok (.iadd, 1) := by decide +kernel
theorem dLW_law_768 : decode code 768 = .ok (.iaload, 1) := by decide +kernel
theorem dLW_law_769 : decode code 769 = .ok (.invokevirtual 89, 3) := by decide +kernel
theorem dLW_law_772 : decode code 772 = .ok (.dstore 6, 2) := by decide +kernel
theorem dLW_law_774 : decode code 774 = .ok (.dload 4, 2) := by decide +kernel
theorem dLW_law_776 : decode code 776 = .ok (.dload 6, 2) := by decide +kernel
theorem dLW_law_778 : decode code 778 = .ok (.dcmp .l, 1) := by decide +kernel
theorem dLW_law_779 : decode code 779 = .ok (.ifCond .eq 21, 3) := by decide +kernel
theorem dLW_law_782 : decode code 782 = .ok (.dload 4, 2) := by decide +kernel
theorem dLW_law_784 : decode code 784 = .ok (.dload 4, 2) := by decide +kernel
theorem dLW_law_786 : decode code 786 = .ok (.dcmp .l, 1) := by decide +kernel
theorem dLW_law_787 : decode code 787 = .ok (.ifCond .eq 11, 3) := by decide +kernel
theorem dLW_law_790 : decode code 790 = .ok (.dload 6, 2) := by decide +kernel
theorem dLW_law_792 : decode code 792 = .ok (.dload 6, 2) := by decide +kernel
theorem dLW_law_794 : decode code 794 = .ok (.dcmp .l, 1) := by decide +kernel
theorem dLW_law_795 : decode code 795 = .ok (.ifCond .ne 5, 3) := by decide +kernel
theorem dLW_law_798 : decode code 798 = .ok (.iconst 0, 1) := by decide +kernel
theorem dLW_law_799 : decode code 799 = .ok (.ireturn, 1) := by decide +kernel
theorem dLW_law_800 : decode code 800 = .ok (.goto 26, 3) := by decide +kernel
theorem dLW_law_803 : decode code 803 = .ok (.aload_n 1, 1) := by decide +kernel
theorem dLW_law_804 : decode code 804 = .ok (.aload_n 0, 1) := by decide +kernel
theorem dLW_law_805 : decode code 805 = .ok (.iload_n 3, 1) := by decide +kernel
theorem dLW_law_806 : decode code 806 = .ok (.iconst 1, 1) := by decide +kernel
theorem dLW_law_807 : decode code 807 = .ok (.iadd, 1) := by decide +kernel
theorem dLW_law_808 : decode code 808 = .ok (.iaload, 1) := by decide +kernel
theorem dLW_law_809 : decode code 809 = .ok (.invokevirtual 90, 3) := by decide +kernel
theorem dLW_law_812 : decode code 812 = .ok (.aload_n 2, 1) := by decide +kernel
theorem dLW_law_813 : decode code 813 = .ok (.aload_n 0, 1) := by decide +kernel
theorem dLW_law_814 : decode code 814 = .ok (.iload_n 3, 1) := by decide +kernel
theorem dLW_law_815 : decode code 815 = .ok (.iconst 1, 1) := by decide +kernel
theorem dLW_law_816 : decode code 816 = .ok (.iadd, 1) := by decide +kernel
theorem dLW_law_817 : decode code 817 = .ok (.iaload, 1) := by decide +kernel
theorem dLW_law_818 : decode code 818 = .ok (.invokevirtual 93, 3) := by decide +kernel
theorem dLW_law_821 : decode code 821 = .ok (.if_icmp .eq 5, 3) := by decide +kernel
theorem dLW_law_824 : decode code 824 = .ok (.iconst 0, 1) := by decide +kernel
theorem dLW_law_825 : decode code 825 = .ok (.ireturn, 1) := by decide +kernel
theorem dLW_law_826 : decode code 826 = .ok (.iinc 3 6, 3) := by decide +kernel
theorem dLW_law_829 : decode code 829 = .ok (.goto (-811), 3) := by decide +kernel
theorem dLW_law_832 : decode code 832 = .ok (.iconst 1, 1) := by decide +kernel
theorem dLW_law_833 : decode code 833 = .ok (.ireturn, 1) := by decide +kernel
end
section
/-! ROWS: a Rows object (A: its address, its ints, its longs, its capacity) that holds a list of rows -/
def RA0 (o : Om) (h : AH) (A : Nat × Nat × Nat × Nat) (f : Nat → Int32) (g : Nat → Int64) (L : List Rw) : Prop := h A.1 = some (.inr (0, [.ref A.2.1, .ref A.2.2.1, .int (nI L.length)])) ∧ h A.2.1 = some (.inl (o.2.1 0, A.2.2.2 * 3, .inl f)) ∧ h A.2.2.1 = some (.inl (o.2.1 1, A.2.2.2, .inr (.inl g))) ∧ L.length ≤ A.2.2.2 ∧ A.2.2.2 ≤ 576 ∧ Enc f g L
def RA (o : Om) (h : AH) (A : Nat × Nat × Nat × Nat) (L : List Rw) : Prop := ∃ (f : Nat → Int32) (g : Nat → Int64), RA0 o h A f g L
def colv (k : Ky) (c : Nat) : Int32 := match c with
  | 0 => k.1
  | 1 => k.2.1
  | _ => k.2.2
theorem ix0 (i : Nat) : nI i * 3 = nI (i * 3) := by rw [show (3 : Int32) = nI 3 from rfl, pk_mul]
theorem ix1 (i : Nat) : nI i * 3 + 1 = nI (i * 3 + 1) := by rw [ix0]; exact nI_1 _
theorem ix2 (i : Nat) : nI i * 3 + 2 = nI (i * 3 + 2) := by rw [ix0, show (2 : Int32) = nI 2 from rfl, nI_add]
theorem ixc (i c : Nat) : nI i * 3 + nI c = nI (i * 3 + c) := by rw [ix0, nI_add]
theorem Enc_col {f : Nat → Int32} {g : Nat → Int64} {L : List Rw} (h : Enc f g L) {i : Nat} {r : Rw} (hi : L[i]? = some r) {c : Nat} (hc : c < 3) : f (i * 3 + c) = colv r.1 c := by
  obtain ⟨e1, e2, e3, -⟩ := h i r hi
  match c, hc with
  | 0, _ => exact e1
  | 1, _ => exact e2
  | 2, _ => exact e3
def cmpK (x y : Ky) : Int32 := if x.1 = y.1 then (if x.2.1 = y.2.1 then (if x.2.2 = y.2.2 then 0 else if y.2.2 ≤ x.2.2 then 1 else -1) else if y.2.1 ≤ x.2.1 then 1 else -1) else if y.1 ≤ x.1 then 1 else -1
theorem cmpK_eq (x y : Ky) : cmpK x y = 0 ↔ x = y := by
  obtain ⟨a, b, c⟩ := x
  obtain ⟨a', b', c'⟩ := y
  have n1 : ¬ (1 : Int32) = 0 := by decide
  have n2 : ¬ (-1 : Int32) = 0 := by decide
  simp only [cmpK, Prod.mk.injEq]
  split
  · split
    · split
      · simp_all
      · split <;> simp_all
    · split <;> simp_all
  · split <;> simp_all
theorem cmpK_ge (x y : Ky) : 0 ≤ cmpK x y ↔ ¬ kz x < kz y := by
  obtain ⟨a, b, c⟩ := x
  obtain ⟨a', b', c'⟩ := y
  have n1 : (0 : Int32) ≤ 1 := by decide
  have n2 : ¬ (0 : Int32) ≤ -1 := by decide
  have n3 : (0 : Int32) ≤ 0 := by decide
  rw [kz_lt]
  simp only [cmpK, Int32.le_iff_toInt_le, Int32.lt_iff_toInt_lt, ← Int32.toInt_inj] at *
  split
  · split
    · split
      · simp_all
      · split
        · simp_all <;> omega
        · simp_all
    · split
      · simp_all <;> omega
      · simp_all
  · split
    · simp_all <;> omega
    · simp_all <;> omega
theorem mid_eq {a b : Nat} (ha : a < 1073741824) (hb : b < 1073741824) : (nI a + nI b) / 2 = nI ((a + b) / 2) := by
  rw [nI_add, show (2 : Int32) = nI 2 from rfl]
  exact pk_div (by omega) (by omega) (by omega)
set_option maxHeartbeats 4000000 in
set_option maxRecDepth 100000 in
/-- Rows.size -/
theorem c_RW_size (l : Launch) (o : Om) (h : AH) (A : Nat × Nat × Nat × Nat) (f : Nat → Int32) (g : Nat → Int64) (L : List Rw) (hR : RA0 o h A f g L) : Mt l o yRW_size cRW_size 1 (some .int) ({ frames := 0, cells := 0, slots := 0, locals := 0 } : Room) [.ref A.1] h (QI o (fun r h' => r = nI L.length ∧ h' = h)) (0) (0) := by
  refine Met.ofV (by decide) (Nat.le_of_ble_eq_true rfl) (fun K hl ho C => ?_)
  subst hl; subst ho
  obtain ⟨hA, hV, hW, hn, hcap, hE⟩ := id hR
  refine r_aload_n (n := 1) C dRW_size_0 rfl rfl ?_
  refine r_get (ci := 0) (n := 4) C hinRW rfl 2 (by decide) tw_35 rfl dRW_size_1 rfl (by assumption) rfl ?_
  exact r_iret C dRW_size_4 (Nat.le_refl _) (Nat.le_refl _) ⟨rfl, rfl⟩
set_option maxHeartbeats 4000000 in
set_option maxRecDepth 100000 in
/-- Rows.weightAt -/
theorem c_RW_weightAt (l : Launch) (o : Om) (h : AH) (A : Nat × Nat × Nat × Nat) (f : Nat → Int32) (g : Nat → Int64) (L : List Rw) (i : Nat) (r : Rw) (hR : RA0 o h A f g L) (hi : L[i]? = some r) : Mt l o yRW_weightAt cRW_weightAt 2 (some .long) ({ frames := 0, cells := 0, slots := 0, locals := 0 } : Room) [.ref A.1, .int (nI i)] h (QL o (fun x h' => x = r.2 ∧ h' = h)) (0) (0) := by
  refine Met.ofV (by decide) (Nat.le_of_ble_eq_true rfl) (fun K hl ho C => ?_)
  subst hl; subst ho
  obtain ⟨hA, hV, hW, hn, hcap, hE⟩ := id hR
  have hlt := (List.getElem?_eq_some_iff.mp hi).1
  refine r_aload_n (n := 1) C dRW_weightAt_0 rfl rfl ?_
  refine r_get (ci := 0) (n := 4) C hinRW rfl 1 (by decide) tw_34 rfl dRW_weightAt_1 rfl (by assumption) rfl ?_
  refine r_iload_n (n := 5) C dRW_weightAt_4 rfl rfl ?_
  refine r_lald (n := 6) C dRW_weightAt_5 rfl (by assumption) i rfl (by omega) (by omega) ?_
  exact r_lret C dRW_weightAt_6 (Nat.le_refl _) (Nat.le_refl _) ⟨(hE i r hi).2.2.2, rfl⟩
set_option maxHeartbeats 4000000 in
set_option maxRecDepth 100000 in
/-- Rows.valueAt -/
theorem c_RW_valueAt (l : Launch) (o : Om) (h : AH) (A : Nat × Nat × Nat × Nat) (f : Nat → Int32) (g : Nat → Int64) (L : List Rw) (i c : Nat) (r : Rw) (hR : RA0 o h A f g L) (hi : L[i]? = some r) (hc : c < 3) : Mt l o yRW_valueAt cRW_valueAt 3 (some .int) ({ frames := 0, cells := 0, slots := 0, locals := 0 } : Room) [.ref A.1, .int (nI i), .int (nI c)] h (QI o (fun x h' => x = colv r.1 c ∧ h' = h)) (0) (0) := by
  refine Met.ofV (by decide) (Nat.le_of_ble_eq_true rfl) (fun K hl ho C => ?_)
  subst hl; subst ho
  obtain ⟨hA, hV, hW, hn, hcap, hE⟩ := id hR
  have hlt := (List.getElem?_eq_some_iff.mp hi).1
  refine r_aload_n (n := 1) C dRW_valueAt_0 rfl rfl ?_
  refine r_get (ci := 0) (n := 4) C hinRW rfl 0 (by decide) tw_33 rfl dRW_valueAt_1 rfl (by assumption) rfl ?_
  refine r_iload_n (n := 5) C dRW_valueAt_4 rfl rfl ?_
  refine r_iconst (v := 3) (n := 6) C dRW_valueAt_5 rfl (by decide) ?_
  refine r_imul (n := 7) C dRW_valueAt_6 rfl ?_
  refine r_iload_n (n := 8) C dRW_valueAt_7 rfl rfl ?_
  refine r_iadd (n := 9) C dRW_valueAt_8 rfl ?_
  refine r_iald (n := 10) C dRW_valueAt_9 rfl (by assumption) (i * 3 + c) (ixc i c) (by omega) (by omega) ?_
  exact r_iret C dRW_valueAt_10 (Nat.le_refl _) (Nat.le_refl _) ⟨Enc_col hE hi hc, rfl⟩
set_option maxHeartbeats 4000000 in
set_option maxRecDepth 100000 in
/-- Rows.compareAt -/
theorem c_RW_compareAt (l : Launch) (o : Om) (h : AH) (A : Nat × Nat × Nat × Nat) (f : Nat → Int32) (g : Nat → Int64) (L : List Rw) (i : Nat) (r : Rw) (a b c : Int32) (hR : RA0 o h A f g L) (hi : L[i]? = some r) : Mt l o yRW_compareAt cRW_compareAt 6 (some .int) ({ frames := 0, cells := 0, slots := 0, locals := 0 } : Room) [.ref A.1, .int (nI i), .int a, .int b, .int c] h (QI o (fun x h' => x = cmpK r.1 (a, b, c) ∧ h' = h)) (0) (0) := by
  refine Met.ofV (by decide) (Nat.le_of_ble_eq_true rfl) (fun K hl ho C => ?_)
  subst hl; subst ho
  obtain ⟨hA, hV, hW, hn, hcap, hE⟩ := id hR
  have hlt := (List.getElem?_eq_some_iff.mp hi).1
  obtain ⟨e1, e2, e3, -⟩ := hE i r hi
  refine r_iload_n (n := 1) C dRW_compareAt_0 rfl rfl ?_
  refine r_iconst (v := 3) (n := 2) C dRW_compareAt_1 rfl (by decide) ?_
  refine r_imul (n := 3) C dRW_compareAt_2 rfl ?_
  refine r_istore (n := 5) C dRW_compareAt_3 rfl (by decide) ?_
  refine r_aload_n (n := 6) C dRW_compareAt_5 rfl rfl ?_
  refine r_get (ci := 0) (n := 9) C hinRW rfl 0 (by decide) tw_33 rfl dRW_compareAt_6 rfl (by assumption) rfl ?_
  refine r_iload (n := 11) C dRW_compareAt_9 rfl rfl ?_
  refine r_iald (n := 12) C dRW_compareAt_11 rfl (by assumption) (i * 3) (ix0 i) (by omega) (by omega) ?_
  refine r_iload_n (n := 13) C dRW_compareAt_12 rfl rfl ?_
  refine r_icmp_eq (tgt := 33) (n := 16) C dRW_compareAt_13 (by decide) rfl (fun c_13 => ?_) (fun c_13 => ?_)
  · refine r_aload_n (n := 34) C dRW_compareAt_33 rfl rfl ?_
    refine r_get (ci := 0) (n := 37) C hinRW rfl 0 (by decide) tw_33 rfl dRW_compareAt_34 rfl (by assumption) rfl ?_
    refine r_iload (n := 39) C dRW_compareAt_37 rfl rfl ?_
    refine r_iconst (v := 1) (n := 40) C dRW_compareAt_39 rfl (by decide) ?_
    refine r_iadd (n := 41) C dRW_compareAt_40 rfl ?_
    refine r_iald (n := 42) C dRW_compareAt_41 rfl (by assumption) (i * 3 + 1) (ix1 i) (by omega) (by omega) ?_
    refine r_iload_n (n := 43) C dRW_compareAt_42 rfl rfl ?_
    refine r_icmp_eq (tgt := 65) (n := 46) C dRW_compareAt_43 (by decide) rfl (fun c_43 => ?_) (fun c_43 => ?_)
    · refine r_aload_n (n := 66) C dRW_compareAt_65 rfl rfl ?_
      refine r_get (ci := 0) (n := 69) C hinRW rfl 0 (by decide) tw_33 rfl dRW_compareAt_66 rfl (by assumption) rfl ?_
      refine r_iload (n := 71) C dRW_compareAt_69 rfl rfl ?_
      refine r_iconst (v := 2) (n := 72) C dRW_compareAt_71 rfl (by decide) ?_
      refine r_iadd (n := 73) C dRW_compareAt_72 rfl ?_
      refine r_iald (n := 74) C dRW_compareAt_73 rfl (by assumption) (i * 3 + 2) (ix2 i) (by omega) (by omega) ?_
      refine r_iload (n := 76) C dRW_compareAt_74 rfl rfl ?_
      refine r_icmp_eq (tgt := 99) (n := 79) C dRW_compareAt_76 (by decide) rfl (fun c_76 => ?_) (fun c_76 => ?_)
      · refine r_iconst (v := 0) (n := 100) C dRW_compareAt_99 rfl (by decide) ?_
        exact r_iret C dRW_compareAt_100 (Nat.le_refl _) (Nat.le_refl _) ⟨by simp only [e1, e2, e3] at *; simp [cmpK, *], rfl⟩
      · refine r_aload_n (n := 80) C dRW_compareAt_79 rfl rfl ?_
        refine r_get (ci := 0) (n := 83) C hinRW rfl 0 (by decide) tw_33 rfl dRW_compareAt_80 rfl (by assumption) rfl ?_
        refine r_iload (n := 85) C dRW_compareAt_83 rfl rfl ?_
        refine r_iconst (v := 2) (n := 86) C dRW_compareAt_85 rfl (by decide) ?_
        refine r_iadd (n := 87) C dRW_compareAt_86 rfl ?_
        refine r_iald (n := 88) C dRW_compareAt_87 rfl (by assumption) (i * 3 + 2) (ix2 i) (by omega) (by omega) ?_
        refine r_iload (n := 90) C dRW_compareAt_88 rfl rfl ?_
        refine r_icmp_ge (tgt := 97) (n := 93) C dRW_compareAt_90 (by decide) rfl (fun c_90 => ?_) (fun c_90 => ?_)
        · refine r_iconst (v := 1) (n := 98) C dRW_compareAt_97 rfl (by decide) ?_
          exact r_iret C dRW_compareAt_98 (Nat.le_refl _) (Nat.le_refl _) ⟨by simp only [e1, e2, e3] at *; simp [cmpK, *], rfl⟩
        · refine r_iconst (v := -1) (n := 94) C dRW_compareAt_93 rfl (by decide) ?_
          refine r_goto (tgt := 98) C dRW_compareAt_94 (by decide) ?_
          exact r_iret C dRW_compareAt_98 (Nat.le_refl _) (Nat.le_refl _) ⟨by simp only [e1, e2, e3] at *; simp [cmpK, *], rfl⟩
    · refine r_aload_n (n := 47) C dRW_compareAt_46 rfl rfl ?_
      refine r_get (ci := 0) (n := 50) C hinRW rfl 0 (by decide) tw_33 rfl dRW_compareAt_47 rfl (by assumption) rfl ?_
      refine r_iload (n := 52) C dRW_compareAt_50 rfl rfl ?_
      refine r_iconst (v := 1) (n := 53) C dRW_compareAt_52 rfl (by decide) ?_
      refine r_iadd (n := 54) C dRW_compareAt_53 rfl ?_
      refine r_iald (n := 55) C dRW_compareAt_54 rfl (by assumption) (i * 3 + 1) (ix1 i) (by omega) (by omega) ?_
      refine r_iload_n (n := 56) C dRW_compareAt_55 rfl rfl ?_
      refine r_icmp_ge (tgt := 63) (n := 59) C dRW_compareAt_56 (by decide) rfl (fun c_56 => ?_) (fun c_56 => ?_)
      · refine r_iconst (v := 1) (n := 64) C dRW_compareAt_63 rfl (by decide) ?_
        exact r_iret C dRW_compareAt_64 (Nat.le_refl _) (Nat.le_refl _) ⟨by simp only [e1, e2, e3] at *; simp [cmpK, *], rfl⟩
      · refine r_iconst (v := -1) (n := 60) C dRW_compareAt_59 rfl (by decide) ?_
        refine r_goto (tgt := 64) C dRW_compareAt_60 (by decide) ?_
        exact r_iret C dRW_compareAt_64 (Nat.le_refl _) (Nat.le_refl _) ⟨by simp only [e1, e2, e3] at *; simp [cmpK, *], rfl⟩
  · refine r_aload_n (n := 17) C dRW_compareAt_16 rfl rfl ?_
    refine r_get (ci := 0) (n := 20) C hinRW rfl 0 (by decide) tw_33 rfl dRW_compareAt_17 rfl (by assumption) rfl ?_
    refine r_iload (n := 22) C dRW_compareAt_20 rfl rfl ?_
    refine r_iald (n := 23) C dRW_compareAt_22 rfl (by assumption) (i * 3) (ix0 i) (by omega) (by omega) ?_
    refine r_iload_n (n := 24) C dRW_compareAt_23 rfl rfl ?_
    refine r_icmp_ge (tgt := 31) (n := 27) C dRW_compareAt_24 (by decide) rfl (fun c_24 => ?_) (fun c_24 => ?_)
    · refine r_iconst (v := 1) (n := 32) C dRW_compareAt_31 rfl (by decide) ?_
      exact r_iret C dRW_compareAt_32 (Nat.le_refl _) (Nat.le_refl _) ⟨by simp only [e1, e2, e3] at *; simp [cmpK, *], rfl⟩
    · refine r_iconst (v := -1) (n := 28) C dRW_compareAt_27 rfl (by decide) ?_
      refine r_goto (tgt := 32) C dRW_compareAt_28 (by decide) ?_
      exact r_iret C dRW_compareAt_32 (Nat.le_refl _) (Nat.le_refl _) ⟨by simp only [e1, e2, e3] at *; simp [cmpK, *], rfl⟩
set_option maxHeartbeats 4000000 in
set_option maxRecDepth 100000 in
/-- Rows.placeOf -/
theorem c_RW_placeOf (l : Launch) (o : Om) (h : AH) (A : Nat × Nat × Nat × Nat) (f : Nat → Int32) (g : Nat → Int64) (L : List Rw) (a b c : Int32) (hR : RA0 o h A f g L) (hs : Srt L) : Mt l o yRW_placeOf cRW_placeOf 7 (some .int) ({ frames := 1, cells := 0, slots := 0, locals := 25 } : Room) [.ref A.1, .int a, .int b, .int c] h (QI o (fun x h' => ∃ p, x = nI p ∧ PlaceP L (a, b, c) p ∧ h' = h)) (0) (0) := by
  refine Met.ofV (by decide) (Nat.le_of_ble_eq_true rfl) (fun K hl ho C => ?_)
  subst hl; subst ho
  obtain ⟨hA, hV, hW, hn, hcap, hE⟩ := id hR
  have loop : ∀ (m lo hi : Nat), hi - lo = m → lo ≤ hi → hi ≤ L.length → (∀ (i : Nat) (q : Rw), i < lo → L[i]? = some q → kz q.1 < kz (a, b, c)) → (∀ (i : Nat) (q : Rw), hi ≤ i → L[i]? = some q → kz (a, b, c) ≤ kz q.1) → V K h 0 0 (EndQ K (QI (Ko K) (fun x h' => ∃ p, x = nI p ∧ PlaceP L (a, b, c) p ∧ h' = h)) 0 0) 9 [(0, .ref A.1), (1, .int a), (2, .int b), (3, .int c), (4, .int (nI lo)), (5, .int (nI hi))] [] := by
    intro m
    induction m using Nat.strongRecOn with
    | _ m ih =>
      intro lo hi hm hlh0 hhl hlo hhi
      refine r_iload (n := 11) C dRW_placeOf_9 rfl rfl ?_
      refine r_iload (n := 13) C dRW_placeOf_11 rfl rfl ?_
      refine r_icmp_ge (tgt := 53) (n := 16) C dRW_placeOf_13 (by decide) rfl (fun c_13 => ?_) (fun c_13 => ?_)
      · have e : lo = hi := by have := (nI_leI (by omega) (by omega)).mp c_13; omega
        subst e
        refine r_iload (n := 55) C dRW_placeOf_53 rfl rfl ?_
        exact r_iret C dRW_placeOf_55 (Nat.le_refl _) (Nat.le_refl _) ⟨lo, rfl, ⟨hhl, hlo, hhi⟩, rfl⟩
      · have hlh : lo < hi := by
          rcases Nat.lt_or_ge lo hi with q | q
          · exact q
          · exact absurd (nI_le q (by omega)) c_13
        obtain ⟨md, hmd⟩ : ∃ md, md = (lo + hi) / 2 := ⟨_, rfl⟩
        have hml : md < L.length := by omega
        obtain ⟨r, hr⟩ : ∃ r, L[md]? = some r := ⟨_, List.getElem?_eq_getElem hml⟩
        refine r_iload (n := 18) C dRW_placeOf_16 rfl rfl ?_
        refine r_iload (n := 20) C dRW_placeOf_18 rfl rfl ?_
        refine r_iadd (n := 21) C dRW_placeOf_20 rfl ?_
        refine r_iconst (v := 2) (n := 22) C dRW_placeOf_21 rfl (by decide) ?_
        refine r_idiv (n := 23) C dRW_placeOf_22 rfl (by decide) ?_
        refine V.eqi (y := nI md) (by rw [hmd]; exact mid_eq (by omega) (by omega)) ?_
        refine r_istore (n := 25) C dRW_placeOf_23 rfl (by decide) ?_
        refine r_aload_n (n := 26) C dRW_placeOf_25 rfl rfl ?_
        refine r_iload (n := 28) C dRW_placeOf_26 rfl rfl ?_
        refine r_iload_n (n := 29) C dRW_placeOf_28 rfl rfl ?_
        refine r_iload_n (n := 30) C dRW_placeOf_29 rfl rfl ?_
        refine r_iload_n (n := 31) C dRW_placeOf_30 rfl rfl ?_
        refine r_ci (n := 34) (rn_V (z := 4) (ci := 0) (T := TRW) C (c_RW_compareAt (Kl K) (Ko K) h A f g L md r a b c hR hr) tw_168 tw_170 ts_3 tw_2 tw_171 rfl rfl ndRW_compareAt ⟨Nat.le_of_ble_eq_true rfl, Nat.le_of_ble_eq_true rfl⟩ (by assumption) rfl rfl rfl (Nat.le_of_ble_eq_true rfl) dRW_placeOf_31 ⟨Nat.le_of_ble_eq_true rfl, Nat.le_of_ble_eq_true rfl⟩) rfl (fun x h1 hq => ?_)
        obtain ⟨e1, e2⟩ := hq
        subst e1
        rw [e2]
        refine r_if_ge (tgt := 46) (n := 37) C dRW_placeOf_34 (by decide) rfl (fun c_34 => ?_) (fun c_34 => ?_)
        · refine r_iload (n := 48) C dRW_placeOf_46 rfl rfl ?_
          refine r_istore (n := 50) C dRW_placeOf_48 rfl (by decide) ?_
          refine r_goto (tgt := 9) C dRW_placeOf_50 (by decide) ?_
          refine V.byk (ls' := [(0, .ref A.1), (1, .int a), (2, .int b), (3, .int c), (4, .int (nI lo)), (5, .int (nI md))]) rfl ?_
          refine ih (md - lo) (by omega) lo md rfl (by omega) (by omega) hlo (fun i q hi2 hq => ?_)
          have h4 := (cmpK_ge _ _).mp c_34
          rcases Nat.lt_or_ge i hi with h6 | h6
          · rcases Nat.lt_or_ge md i with h7 | h7
            · have := srt_get hs h7 hr hq; omega
            · have : i = md := by omega
              subst this
              rw [hr] at hq
              cases hq
              omega
          · exact hhi i q h6 hq
        · refine r_iload (n := 39) C dRW_placeOf_37 rfl rfl ?_
          refine r_iconst (v := 1) (n := 40) C dRW_placeOf_39 rfl (by decide) ?_
          refine r_iadd (n := 41) C dRW_placeOf_40 rfl ?_
          refine V.eqi (nI_1 md) ?_
          refine r_istore (n := 43) C dRW_placeOf_41 rfl (by decide) ?_
          refine r_goto (tgt := 50) C dRW_placeOf_43 (by decide) ?_
          refine r_goto (tgt := 9) C dRW_placeOf_50 (by decide) ?_
          refine V.byk (ls' := [(0, .ref A.1), (1, .int a), (2, .int b), (3, .int c), (4, .int (nI (md + 1))), (5, .int (nI hi))]) rfl ?_
          refine ih (hi - (md + 1)) (by omega) (md + 1) hi rfl (by omega) (by omega) (fun i q hi2 hq => ?_) hhi
          have h4 : kz r.1 < kz (a, b, c) := by
            rcases Int.lt_or_le (kz r.1) (kz (a, b, c)) with h5 | h5
            · exact h5
            · exact absurd ((cmpK_ge _ _).mpr (by omega)) c_34
          rcases Nat.lt_or_ge i md with h7 | h7
          · have := srt_get hs h7 hq hr; omega
          · have : i = md := by omega
            subst this
            rw [hr] at hq
            cases hq
            exact h4
  refine r_iconst (v := 0) (n := 1) C dRW_placeOf_0 rfl (by decide) ?_
  refine r_istore (n := 3) C dRW_placeOf_1 rfl (by decide) ?_
  refine r_aload_n (n := 4) C dRW_placeOf_3 rfl rfl ?_
  refine r_get (ci := 0) (n := 7) C hinRW rfl 2 (by decide) tw_35 rfl dRW_placeOf_4 rfl (by assumption) rfl ?_
  refine r_istore (n := 9) C dRW_placeOf_7 rfl (by decide) ?_
  refine V.byk (ls' := [(0, .ref A.1), (1, .int a), (2, .int b), (3, .int c), (4, .int (nI 0)), (5, .int (nI L.length))]) rfl ?_
  exact loop _ 0 L.length rfl (Nat.zero_le _) (Nat.le_refl _) (fun i q h0 => absurd h0 (Nat.not_lt_zero _)) (fun i q h0 hq => absurd (List.getElem?_eq_some_iff.mp hq).1 (by omega))
end
section
/-! ROWS, what changes them -/
def Off (A : Nat × Nat × Nat × Nat) (h h' : AH) : Prop := ∀ q : Nat, q ≠ A.1 → q ≠ A.2.1 → q ≠ A.2.2.1 → h' q = h q
theorem Off.rf {A : Nat × Nat × Nat × Nat} {h : AH} : Off A h h := fun _ _ _ _ => rfl
theorem Off.tr {A : Nat × Nat × Nat × Nat} {h h1 h2 : AH} (a : Off A h h1) (b : Off A h1 h2) : Off A h h2 := fun q q1 q2 q3 => (b q q1 q2 q3).trans (a q q1 q2 q3)
theorem Off.p1 {A : Nat × Nat × Nat × Nat} {h h1 : AH} (a : Off A h h1) (x : va_E) : Off A h (hu h1 A.1 x) := fun q q1 q2 q3 => (hu_ne _ _ q1).trans (a q q1 q2 q3)
theorem Off.p2 {A : Nat × Nat × Nat × Nat} {h h1 : AH} (a : Off A h h1) (x : va_E) : Off A h (hu h1 A.2.1 x) := fun q q1 q2 q3 => (hu_ne _ _ q2).trans (a q q1 q2 q3)
theorem Off.p3 {A : Nat × Nat × Nat × Nat} {h h1 : AH} (a : Off A h h1) (x : va_E) : Off A h (hu h1 A.2.2.1 x) := fun q q1 q2 q3 => (hu_ne _ _ q3).trans (a q q1 q2 q3)
theorem RA0.ne {o : Om} {h : AH} {A : Nat × Nat × Nat × Nat} {f : Nat → Int32} {g : Nat → Int64} {L : List Rw} (hR : RA0 o h A f g L) : A.1 ≠ A.2.1 ∧ A.1 ≠ A.2.2.1 ∧ A.2.1 ≠ A.2.2.1 := by
  obtain ⟨hA, hV, hW, -, -, -⟩ := hR
  refine ⟨fun e => ?_, fun e => ?_, fun e => ?_⟩
  · rw [e, hV] at hA; simp at hA
  · rw [e, hW] at hA; simp at hA
  · rw [e, hW] at hV; simp at hV
def hitK (L : List Rw) (p : Nat) (k : Ky) : Bool := match L[p]? with
  | some r => decide (r.1 = k)
  | none => false
theorem hitK_t {L : List Rw} {p : Nat} {k : Ky} (h : hitK L p k = true) : ∃ r, L[p]? = some r ∧ r.1 = k := by
  unfold hitK at h
  split at h
  · next r hr => exact ⟨r, hr, of_decide_eq_true h⟩
  · cases h
theorem hitK_f {L : List Rw} {p : Nat} {k : Ky} (h : ¬ hitK L p k = true) : ∀ r, L[p]? = some r → r.1 ≠ k := by
  intro r hr e
  unfold hitK at h
  rw [hr] at h
  exact h (decide_eq_true e)
def b01 (b : Bool) : Int32 := if b = true then 1 else 0
theorem b01_t {b : Bool} (h : ¬ b01 b = 0) : b = true := by cases b <;> simp_all [b01]
theorem b01_f {b : Bool} (h : b01 b = 0) : b = false := by
  cases b
  · rfl
  · exact absurd h (by decide)
set_option maxHeartbeats 4000000 in
set_option maxRecDepth 100000 in
/-- Rows.isAt -/
theorem c_RW_isAt (l : Launch) (o : Om) (h : AH) (A : Nat × Nat × Nat × Nat) (f : Nat → Int32) (g : Nat → Int64) (L : List Rw) (p : Nat) (a b c : Int32) (hR : RA0 o h A f g L) (hp : p ≤ L.length) : Mt l o yRW_isAt cRW_isAt 5 (some .boolean) ({ frames := 1, cells := 0, slots := 0, locals := 25 } : Room) [.ref A.1, .int (nI p), .int a, .int b, .int c] h (QI o (fun x h' => x = b01 (hitK L p (a, b, c)) ∧ h' = h)) (0) (0) := by
  refine Met.ofV (by decide) (Nat.le_of_ble_eq_true rfl) (fun K hl ho C => ?_)
  subst hl; subst ho
  obtain ⟨hA, hV, hW, hn, hcap, hE⟩ := id hR
  refine r_iload_n (n := 1) C dRW_isAt_0 rfl rfl ?_
  refine r_aload_n (n := 2) C dRW_isAt_1 rfl rfl ?_
  refine r_get (ci := 0) (n := 5) C hinRW rfl 2 (by decide) tw_35 rfl dRW_isAt_2 rfl (by assumption) rfl ?_
  refine r_icmp_ge (tgt := 24) (n := 8) C dRW_isAt_5 (by decide) rfl (fun c_5 => ?_) (fun c_5 => ?_)
  · have hz : hitK L p (a, b, c) = false := by
      have hl : L.length ≤ p := (nI_leI (by omega) (by omega)).mp c_5
      unfold hitK
      rw [List.getElem?_eq_none hl]
    refine r_iconst (v := 0) (n := 25) C dRW_isAt_24 rfl (by decide) ?_
    exact r_zret C dRW_isAt_25 rfl (Nat.le_refl _) (Nat.le_refl _) ⟨by rw [hz]; rfl, rfl⟩
  · have hlt : p < L.length := by
      rcases Nat.lt_or_ge p L.length with q | q
      · exact q
      · exact absurd (nI_le q (by omega)) c_5
    obtain ⟨r, hr⟩ : ∃ r, L[p]? = some r := ⟨_, List.getElem?_eq_getElem hlt⟩
    refine r_aload_n (n := 9) C dRW_isAt_8 rfl rfl ?_
    refine r_iload_n (n := 10) C dRW_isAt_9 rfl rfl ?_
    refine r_iload_n (n := 11) C dRW_isAt_10 rfl rfl ?_
    refine r_iload_n (n := 12) C dRW_isAt_11 rfl rfl ?_
    refine r_iload (n := 14) C dRW_isAt_12 rfl rfl ?_
    refine r_ci (n := 17) (rn_V (z := 4) (ci := 0) (T := TRW) C (c_RW_compareAt (Kl K) (Ko K) h A f g L p r a b c hR hr) tw_168 tw_170 ts_3 tw_2 tw_171 rfl rfl ndRW_compareAt ⟨Nat.le_of_ble_eq_true rfl, Nat.le_of_ble_eq_true rfl⟩ (by assumption) rfl rfl rfl (Nat.le_of_ble_eq_true rfl) dRW_isAt_14 ⟨Nat.le_of_ble_eq_true rfl, Nat.le_of_ble_eq_true rfl⟩) rfl (fun x h1 hq => ?_)
    obtain ⟨e1, e2⟩ := hq
    subst e1
    rw [e2]
    refine r_if_ne (tgt := 24) (n := 20) C dRW_isAt_17 (by decide) rfl (fun c_17 => ?_) (fun c_17 => ?_)
    · have hz : hitK L p (a, b, c) = false := by
        unfold hitK
        rw [hr]
        exact decide_eq_false (fun e => c_17 ((cmpK_eq _ _).mpr e))
      refine r_iconst (v := 0) (n := 25) C dRW_isAt_24 rfl (by decide) ?_
      exact r_zret C dRW_isAt_25 rfl (Nat.le_refl _) (Nat.le_refl _) ⟨by rw [hz]; rfl, rfl⟩
    · have hz : hitK L p (a, b, c) = true := by
        unfold hitK
        rw [hr]
        exact decide_eq_true ((cmpK_eq _ _).mp c_17)
      refine r_iconst (v := 1) (n := 21) C dRW_isAt_20 rfl (by decide) ?_
      refine r_goto (tgt := 25) C dRW_isAt_21 (by decide) ?_
      exact r_zret C dRW_isAt_25 rfl (Nat.le_refl _) (Nat.le_refl _) ⟨by rw [hz]; rfl, rfl⟩
set_option maxHeartbeats 4000000 in
set_option maxRecDepth 100000 in
/-- Rows.weightOf -/
theorem c_RW_weightOf (l : Launch) (o : Om) (h : AH) (A : Nat × Nat × Nat × Nat) (f : Nat → Int32) (g : Nat → Int64) (L : List Rw) (a b c : Int32) (hR : RA0 o h A f g L) (hs : Srt L) : Mt l o yRW_weightOf cRW_weightOf 5 (some .long) ({ frames := 2, cells := 0, slots := 0, locals := 51 } : Room) [.ref A.1, .int a, .int b, .int c] h (QL o (fun x h' => x = wt L (a, b, c) ∧ h' = h)) (0) (0) := by
  refine Met.ofV (by decide) (Nat.le_of_ble_eq_true rfl) (fun K hl ho C => ?_)
  subst hl; subst ho
  obtain ⟨hA, hV, hW, hn, hcap, hE⟩ := id hR
  refine r_aload_n (n := 1) C dRW_weightOf_0 rfl rfl ?_
  refine r_iload_n (n := 2) C dRW_weightOf_1 rfl rfl ?_
  refine r_iload_n (n := 3) C dRW_weightOf_2 rfl rfl ?_
  refine r_iload_n (n := 4) C dRW_weightOf_3 rfl rfl ?_
  refine r_ci (n := 7) (rn_V (z := 3) (ci := 0) (T := TRW) C (c_RW_placeOf (Kl K) (Ko K) h A f g L a b c hR hs) tw_164 tw_166 ts_2 tw_2 tw_167 rfl rfl ndRW_placeOf ⟨Nat.le_of_ble_eq_true rfl, Nat.le_of_ble_eq_true rfl⟩ (by assumption) rfl rfl rfl (Nat.le_of_ble_eq_true rfl) dRW_weightOf_4 ⟨Nat.le_of_ble_eq_true rfl, Nat.le_of_ble_eq_true rfl⟩) rfl (fun x h1 hq => ?_)
  obtain ⟨p, e1, hpl, e2⟩ := hq
  subst e1
  rw [e2]
  have hp := hpl.1
  refine r_istore (n := 9) C dRW_weightOf_7 rfl (by decide) ?_
  refine r_aload_n (n := 10) C dRW_weightOf_9 rfl rfl ?_
  refine r_iload (n := 12) C dRW_weightOf_10 rfl rfl ?_
  refine r_iload_n (n := 13) C dRW_weightOf_12 rfl rfl ?_
  refine r_iload_n (n := 14) C dRW_weightOf_13 rfl rfl ?_
  refine r_iload_n (n := 15) C dRW_weightOf_14 rfl rfl ?_
  refine r_ci (n := 18) (rn_V (z := 4) (ci := 0) (T := TRW) C (c_RW_isAt (Kl K) (Ko K) h A f g L p a b c hR hp) tw_172 tw_174 ts_4 tw_2 tw_175 rfl rfl ndRW_isAt ⟨Nat.le_of_ble_eq_true rfl, Nat.le_of_ble_eq_true rfl⟩ (by assumption) rfl rfl rfl (Nat.le_of_ble_eq_true rfl) dRW_weightOf_15 ⟨Nat.le_of_ble_eq_true rfl, Nat.le_of_ble_eq_true rfl⟩) rfl (fun x h1 hq => ?_)
  obtain ⟨e1, e2⟩ := hq
  subst e1
  rw [e2]
  refine r_if_eq (tgt := 31) (n := 21) C dRW_weightOf_18 (by decide) rfl (fun c_18 => ?_) (fun c_18 => ?_)
  · refine r_lconst (v := 0) (n := 32) C dRW_weightOf_31 rfl (by decide) ?_
    exact r_lret C dRW_weightOf_32 (Nat.le_refl _) (Nat.le_refl _) ⟨(wt_not hs hpl (hitK_f (by rw [b01_f c_18]; decide))).symm, rfl⟩
  · obtain ⟨r, hr, hrk⟩ := hitK_t (b01_t c_18)
    have hlt := (List.getElem?_eq_some_iff.mp hr).1
    refine r_aload_n (n := 22) C dRW_weightOf_21 rfl rfl ?_
    refine r_get (ci := 0) (n := 25) C hinRW rfl 1 (by decide) tw_34 rfl dRW_weightOf_22 rfl (by assumption) rfl ?_
    refine r_iload (n := 27) C dRW_weightOf_25 rfl rfl ?_
    refine r_lald (n := 28) C dRW_weightOf_27 rfl (by assumption) p rfl (by omega) (by omega) ?_
    refine r_goto (tgt := 32) C dRW_weightOf_28 (by decide) ?_
    exact r_lret C dRW_weightOf_32 (Nat.le_refl _) (Nat.le_refl _) ⟨((hE p r hr).2.2.2).trans (wt_at hpl hr hrk).symm, rfl⟩
set_option maxHeartbeats 4000000 in
set_option maxRecDepth 100000 in
/-- Rows.clear -/
theorem c_RW_clear (l : Launch) (o : Om) (h : AH) (A : Nat × Nat × Nat × Nat) (f : Nat → Int32) (g : Nat → Int64) (L : List Rw) (hR : RA0 o h A f g L) : Mt l o yRW_clear cRW_clear 1 none ({ frames := 0, cells := 0, slots := 0, locals := 0 } : Room) [.ref A.1] h (QV o (fun h' => ∃ f' g', RA0 o h' A f' g' ([]) ∧ Off A h h')) (0) (0) := by
  refine Met.ofV (by decide) (Nat.le_of_ble_eq_true rfl) (fun K hl ho C => ?_)
  subst hl; subst ho
  obtain ⟨hA, hV, hW, hn, hcap, hE⟩ := id hR
  obtain ⟨n12, n13, n23⟩ := hR.ne
  refine r_aload_n (n := 1) C dRW_clear_0 rfl rfl ?_
  refine r_iconst (v := 0) (n := 2) C dRW_clear_1 rfl (by decide) ?_
  refine r_put (ci := 0) (n := 5) C hinRW tyRW okRW nmRW rfl 2 (by decide) tw_35 rfl rfl (okRW 2 (by decide)) rfl rfl dRW_clear_2 rfl (by assumption) (Nat.le_of_ble_eq_true rfl) ?_
  exact r_vret C dRW_clear_5 (Nat.le_refl _) (Nat.le_refl _) ⟨f, g, ⟨hu_eq _ _ _, (hu_ne _ _ (Ne.symm n12)).trans hV, (hu_ne _ _ (Ne.symm n13)).trans hW, Nat.zero_le _, hcap, Enc_nil f g⟩, Off.rf.p1 _⟩
set_option maxHeartbeats 4000000 in
set_option maxRecDepth 100000 in
/-- Rows.insertAt -/
theorem c_RW_insertAt (l : Launch) (o : Om) (h : AH) (A : Nat × Nat × Nat × Nat) (f : Nat → Int32) (g : Nat → Int64) (L : List Rw) (p : Nat) (a b c : Int32) (w : Int64) (hR : RA0 o h A f g L) (hp : p ≤ L.length) (hroom : L.length < A.2.2.2) : Mt l o yRW_insertAt cRW_insertAt 8 none ({ frames := 1, cells := 0, slots := 0, locals := 48 } : Room) [.ref A.1, .int (nI p), .int a, .int b, .int c, .long w] h (QV o (fun h' => ∃ f' g', RA0 o h' A f' g' (L.take p ++ ((a, b, c), w) :: L.drop p) ∧ Off A h h')) (0) (0) := by
  refine Met.ofV (by decide) (Nat.le_of_ble_eq_true rfl) (fun K hl ho C => ?_)
  subst hl; subst ho
  obtain ⟨hA, hV, hW, hn, hcap, hE⟩ := id hR
  obtain ⟨n12, n13, n23⟩ := hR.ne
  have hlen : (L.take p ++ ((a, b, c), w) :: L.drop p).length = L.length + 1 := by simp; omega
  refine r_iload_n (n := 1) C dRW_insertAt_0 rfl rfl ?_
  refine r_iconst (v := 3) (n := 2) C dRW_insertAt_1 rfl (by decide) ?_
  refine r_imul (n := 3) C dRW_insertAt_2 rfl ?_
  refine r_istore (n := 5) C dRW_insertAt_3 rfl (by decide) ?_
  refine r_aload_n (n := 6) C dRW_insertAt_5 rfl rfl ?_
  refine r_get (ci := 0) (n := 9) C hinRW rfl 0 (by decide) tw_33 rfl dRW_insertAt_6 rfl (by assumption) rfl ?_
  refine r_iload (n := 11) C dRW_insertAt_9 rfl rfl ?_
  refine r_aload_n (n := 12) C dRW_insertAt_11 rfl rfl ?_
  refine r_get (ci := 0) (n := 15) C hinRW rfl 0 (by decide) tw_33 rfl dRW_insertAt_12 rfl (by assumption) rfl ?_
  refine r_iload (n := 17) C dRW_insertAt_15 rfl rfl ?_
  refine r_iconst (v := 3) (n := 18) C dRW_insertAt_17 rfl (by decide) ?_
  refine r_iadd (n := 19) C dRW_insertAt_18 rfl ?_
  refine r_aload_n (n := 20) C dRW_insertAt_19 rfl rfl ?_
  refine r_get (ci := 0) (n := 23) C hinRW rfl 2 (by decide) tw_35 rfl dRW_insertAt_20 rfl (by assumption) rfl ?_
  refine r_iload_n (n := 24) C dRW_insertAt_23 rfl rfl ?_
  refine r_isub (n := 25) C dRW_insertAt_24 rfl ?_
  refine r_iconst (v := 3) (n := 26) C dRW_insertAt_25 rfl (by decide) ?_
  refine r_imul (n := 27) C dRW_insertAt_26 rfl ?_
  refine r_copyi (n := 30) C tw_140 tw_142 tw_141 tw_8 dRW_insertAt_27 rfl hV hV (p * 3) (p * 3 + 3) ((L.length - p) * 3) (ix0 p) (by rw [ix0, show (3 : Int32) = nI 3 from rfl, nI_add]) (by rw [pk_sub hp, ix0]) (by omega) (by omega) (by omega) (by omega) (Nat.le_of_ble_eq_true rfl) (Nat.le_of_ble_eq_true rfl) ?_
  generalize eh1 : hu h A.2.1 _ = h1
  have hA1 := ((congrFun eh1.symm A.1).trans (hu_ne _ _ n12)).trans hA
  have hV1 := (congrFun eh1.symm A.2.1).trans (hu_eq _ _ _)
  have hW1 := ((congrFun eh1.symm A.2.2.1).trans (hu_ne _ _ (Ne.symm n23))).trans hW
  have hO1 : Off A h h1 := eh1 ▸ Off.p2 Off.rf _
  refine r_aload_n (n := 31) C dRW_insertAt_30 rfl rfl ?_
  refine r_get (ci := 0) (n := 34) C hinRW rfl 1 (by decide) tw_34 rfl dRW_insertAt_31 rfl (by assumption) rfl ?_
  refine r_iload_n (n := 35) C dRW_insertAt_34 rfl rfl ?_
  refine r_aload_n (n := 36) C dRW_insertAt_35 rfl rfl ?_
  refine r_get (ci := 0) (n := 39) C hinRW rfl 1 (by decide) tw_34 rfl dRW_insertAt_36 rfl (by assumption) rfl ?_
  refine r_iload_n (n := 40) C dRW_insertAt_39 rfl rfl ?_
  refine r_iconst (v := 1) (n := 41) C dRW_insertAt_40 rfl (by decide) ?_
  refine r_iadd (n := 42) C dRW_insertAt_41 rfl ?_
  refine r_aload_n (n := 43) C dRW_insertAt_42 rfl rfl ?_
  refine r_get (ci := 0) (n := 46) C hinRW rfl 2 (by decide) tw_35 rfl dRW_insertAt_43 rfl (by assumption) rfl ?_
  refine r_iload_n (n := 47) C dRW_insertAt_46 rfl rfl ?_
  refine r_isub (n := 48) C dRW_insertAt_47 rfl ?_
  refine r_copyl (n := 51) C tw_140 tw_142 tw_141 tw_8 dRW_insertAt_48 rfl hW1 hW1 p (p + 1) (L.length - p) rfl (nI_1 p) (pk_sub hp) (by omega) (by omega) (by omega) (by omega) (Nat.le_of_ble_eq_true rfl) (Nat.le_of_ble_eq_true rfl) ?_
  generalize eh2 : hu h1 A.2.2.1 _ = h2
  have hA2 := ((congrFun eh2.symm A.1).trans (hu_ne _ _ n13)).trans hA1
  have hV2 := ((congrFun eh2.symm A.2.1).trans (hu_ne _ _ n23)).trans hV1
  have hW2 := (congrFun eh2.symm A.2.2.1).trans (hu_eq _ _ _)
  have hO2 : Off A h h2 := eh2 ▸ Off.p3 hO1 _
  refine r_aload_n (n := 52) C dRW_insertAt_51 rfl rfl ?_
  refine r_get (ci := 0) (n := 55) C hinRW rfl 0 (by decide) tw_33 rfl dRW_insertAt_52 rfl (by assumption) rfl ?_
  refine r_iload (n := 57) C dRW_insertAt_55 rfl rfl ?_
  refine r_iload_n (n := 58) C dRW_insertAt_57 rfl rfl ?_
  refine r_iast (n := 59) C dRW_insertAt_58 rfl hV2 (p * 3) (ix0 p) (by omega) (by omega) ?_
  generalize eh3 : hu h2 A.2.1 _ = h3
  have hA3 := ((congrFun eh3.symm A.1).trans (hu_ne _ _ n12)).trans hA2
  have hV3 := (congrFun eh3.symm A.2.1).trans (hu_eq _ _ _)
  have hW3 := ((congrFun eh3.symm A.2.2.1).trans (hu_ne _ _ (Ne.symm n23))).trans hW2
  have hO3 : Off A h h3 := eh3 ▸ Off.p2 hO2 _
  refine r_aload_n (n := 60) C dRW_insertAt_59 rfl rfl ?_
  refine r_get (ci := 0) (n := 63) C hinRW rfl 0 (by decide) tw_33 rfl dRW_insertAt_60 rfl (by assumption) rfl ?_
  refine r_iload (n := 65) C dRW_insertAt_63 rfl rfl ?_
  refine r_iconst (v := 1) (n := 66) C dRW_insertAt_65 rfl (by decide) ?_
  refine r_iadd (n := 67) C dRW_insertAt_66 rfl ?_
  refine r_iload_n (n := 68) C dRW_insertAt_67 rfl rfl ?_
  refine r_iast (n := 69) C dRW_insertAt_68 rfl hV3 (p * 3 + 1) (ix1 p) (by omega) (by omega) ?_
  generalize eh4 : hu h3 A.2.1 _ = h4
  have hA4 := ((congrFun eh4.symm A.1).trans (hu_ne _ _ n12)).trans hA3
  have hV4 := (congrFun eh4.symm A.2.1).trans (hu_eq _ _ _)
  have hW4 := ((congrFun eh4.symm A.2.2.1).trans (hu_ne _ _ (Ne.symm n23))).trans hW3
  have hO4 : Off A h h4 := eh4 ▸ Off.p2 hO3 _
  refine r_aload_n (n := 70) C dRW_insertAt_69 rfl rfl ?_
  refine r_get (ci := 0) (n := 73) C hinRW rfl 0 (by decide) tw_33 rfl dRW_insertAt_70 rfl (by assumption) rfl ?_
  refine r_iload (n := 75) C dRW_insertAt_73 rfl rfl ?_
  refine r_iconst (v := 2) (n := 76) C dRW_insertAt_75 rfl (by decide) ?_
  refine r_iadd (n := 77) C dRW_insertAt_76 rfl ?_
  refine r_iload (n := 79) C dRW_insertAt_77 rfl rfl ?_
  refine r_iast (n := 80) C dRW_insertAt_79 rfl hV4 (p * 3 + 2) (ix2 p) (by omega) (by omega) ?_
  generalize eh5 : hu h4 A.2.1 _ = h5
  have hA5 := ((congrFun eh5.symm A.1).trans (hu_ne _ _ n12)).trans hA4
  have hV5 := (congrFun eh5.symm A.2.1).trans (hu_eq _ _ _)
  have hW5 := ((congrFun eh5.symm A.2.2.1).trans (hu_ne _ _ (Ne.symm n23))).trans hW4
  have hO5 : Off A h h5 := eh5 ▸ Off.p2 hO4 _
  refine r_aload_n (n := 81) C dRW_insertAt_80 rfl rfl ?_
  refine r_get (ci := 0) (n := 84) C hinRW rfl 1 (by decide) tw_34 rfl dRW_insertAt_81 rfl (by assumption) rfl ?_
  refine r_iload_n (n := 85) C dRW_insertAt_84 rfl rfl ?_
  refine r_lload (n := 87) C dRW_insertAt_85 rfl rfl ?_
  refine r_last (n := 88) C dRW_insertAt_87 rfl hW5 p rfl (by omega) (by omega) ?_
  generalize eh6 : hu h5 A.2.2.1 _ = h6
  have hA6 := ((congrFun eh6.symm A.1).trans (hu_ne _ _ n13)).trans hA5
  have hV6 := ((congrFun eh6.symm A.2.1).trans (hu_ne _ _ n23)).trans hV5
  have hW6 := (congrFun eh6.symm A.2.2.1).trans (hu_eq _ _ _)
  have hO6 : Off A h h6 := eh6 ▸ Off.p3 hO5 _
  refine r_aload_n (n := 89) C dRW_insertAt_88 rfl rfl ?_
  refine r_dup (n := 90) C dRW_insertAt_89 rfl rfl ?_
  refine r_get (ci := 0) (n := 93) C hinRW rfl 2 (by decide) tw_35 rfl dRW_insertAt_90 rfl (by assumption) rfl ?_
  refine r_iconst (v := 1) (n := 94) C dRW_insertAt_93 rfl (by decide) ?_
  refine r_iadd (n := 95) C dRW_insertAt_94 rfl ?_
  refine V.eqi (nI_1 L.length) ?_
  refine r_put (ci := 0) (n := 98) C hinRW tyRW okRW nmRW rfl 2 (by decide) tw_35 rfl rfl (okRW 2 (by decide)) rfl rfl dRW_insertAt_95 rfl hA6 (Nat.le_of_ble_eq_true rfl) ?_
  generalize eh7 : hu h6 A.1 _ = h7
  have hA7 := (congrFun eh7.symm A.1).trans (hu_eq _ _ _)
  have hV7 := ((congrFun eh7.symm A.2.1).trans (hu_ne _ _ (Ne.symm n12))).trans hV6
  have hW7 := ((congrFun eh7.symm A.2.2.1).trans (hu_ne _ _ (Ne.symm n13))).trans hW6
  have hO7 : Off A h h7 := eh7 ▸ Off.p1 hO6 _
  exact r_vret C dRW_insertAt_98 (Nat.le_refl _) (Nat.le_refl _) ⟨_, _, ⟨hA7.trans (by rw [hlen]; rfl), hV7, hW7, by rw [hlen]; omega, hcap, Enc_ins hE hp a b c w⟩, hO7⟩
set_option maxHeartbeats 4000000 in
set_option maxRecDepth 100000 in
/-- Rows.addWeight -/
theorem c_RW_addWeight (l : Launch) (o : Om) (h : AH) (A : Nat × Nat × Nat × Nat) (f : Nat → Int32) (g : Nat → Int64) (L : List Rw) (a b c : Int32) (w : Int64) (hR : RA0 o h A f g L) (hs : Srt L) (hroom : L.length < A.2.2.2) : Mt l o yRW_addWeight cRW_addWeight 7 none ({ frames := 2, cells := 0, slots := 0, locals := 75 } : Room) [.ref A.1, .int a, .int b, .int c, .long w] h (QV o (fun h' => ∃ f' g', RA0 o h' A f' g' (addW L (a, b, c) w) ∧ Off A h h')) (0) (0) := by
  refine Met.ofV (by decide) (Nat.le_of_ble_eq_true rfl) (fun K hl ho C => ?_)
  subst hl; subst ho
  obtain ⟨hA, hV, hW, hn, hcap, hE⟩ := id hR
  obtain ⟨n12, n13, n23⟩ := hR.ne
  refine r_aload_n (n := 1) C dRW_addWeight_0 rfl rfl ?_
  refine r_iload_n (n := 2) C dRW_addWeight_1 rfl rfl ?_
  refine r_iload_n (n := 3) C dRW_addWeight_2 rfl rfl ?_
  refine r_iload_n (n := 4) C dRW_addWeight_3 rfl rfl ?_
  refine r_ci (n := 7) (rn_V (z := 3) (ci := 0) (T := TRW) C (c_RW_placeOf (Kl K) (Ko K) h A f g L a b c hR hs) tw_164 tw_166 ts_2 tw_2 tw_167 rfl rfl ndRW_placeOf ⟨Nat.le_of_ble_eq_true rfl, Nat.le_of_ble_eq_true rfl⟩ (by assumption) rfl rfl rfl (Nat.le_of_ble_eq_true rfl) dRW_addWeight_4 ⟨Nat.le_of_ble_eq_true rfl, Nat.le_of_ble_eq_true rfl⟩) rfl (fun x h1 hq => ?_)
  obtain ⟨p, e1, hpl, e2⟩ := hq
  subst e1
  rw [e2]
  have hp := hpl.1
  refine r_istore (n := 9) C dRW_addWeight_7 rfl (by decide) ?_
  refine r_aload_n (n := 10) C dRW_addWeight_9 rfl rfl ?_
  refine r_iload (n := 12) C dRW_addWeight_10 rfl rfl ?_
  refine r_iload_n (n := 13) C dRW_addWeight_12 rfl rfl ?_
  refine r_iload_n (n := 14) C dRW_addWeight_13 rfl rfl ?_
  refine r_iload_n (n := 15) C dRW_addWeight_14 rfl rfl ?_
  refine r_ci (n := 18) (rn_V (z := 4) (ci := 0) (T := TRW) C (c_RW_isAt (Kl K) (Ko K) h A f g L p a b c hR hp) tw_172 tw_174 ts_4 tw_2 tw_175 rfl rfl ndRW_isAt ⟨Nat.le_of_ble_eq_true rfl, Nat.le_of_ble_eq_true rfl⟩ (by assumption) rfl rfl rfl (Nat.le_of_ble_eq_true rfl) dRW_addWeight_15 ⟨Nat.le_of_ble_eq_true rfl, Nat.le_of_ble_eq_true rfl⟩) rfl (fun x h1 hq => ?_)
  obtain ⟨e1, e2⟩ := hq
  subst e1
  rw [e2]
  refine r_if_eq (tgt := 36) (n := 21) C dRW_addWeight_18 (by decide) rfl (fun c_18 => ?_) (fun c_18 => ?_)
  · have hno := hitK_f (L := L) (p := p) (k := (a, b, c)) (by rw [b01_f c_18]; decide)
    have heq := addW_in w hpl hno
    refine r_aload_n (n := 37) C dRW_addWeight_36 rfl rfl ?_
    refine r_get (ci := 0) (n := 40) C hinRW rfl 2 (by decide) tw_35 rfl dRW_addWeight_37 rfl (by assumption) rfl ?_
    refine r_aload_n (n := 41) C dRW_addWeight_40 rfl rfl ?_
    refine r_get (ci := 0) (n := 44) C hinRW rfl 1 (by decide) tw_34 rfl dRW_addWeight_41 rfl (by assumption) rfl ?_
    refine r_lalen (n := 45) C dRW_addWeight_44 rfl (by assumption) ?_
    refine r_icmp_ge (tgt := 59) (n := 48) C dRW_addWeight_45 (by decide) rfl (fun c_45 => ?_) (fun c_45 => ?_)
    · exact absurd ((nI_leI (by omega) (by omega)).mp c_45) (by omega)
    · refine r_aload_n (n := 49) C dRW_addWeight_48 rfl rfl ?_
      refine r_iload (n := 51) C dRW_addWeight_49 rfl rfl ?_
      refine r_iload_n (n := 52) C dRW_addWeight_51 rfl rfl ?_
      refine r_iload_n (n := 53) C dRW_addWeight_52 rfl rfl ?_
      refine r_iload_n (n := 54) C dRW_addWeight_53 rfl rfl ?_
      refine r_lload (n := 56) C dRW_addWeight_54 rfl rfl ?_
      refine r_cv (n := 59) (rn_V (z := 5) (ci := 0) (T := TRW) C (c_RW_insertAt (Kl K) (Ko K) h A f g L p a b c w hR hp hroom) tw_176 tw_178 ts_5 tw_2 tw_179 rfl rfl ndRW_insertAt ⟨Nat.le_of_ble_eq_true rfl, Nat.le_of_ble_eq_true rfl⟩ (by assumption) rfl rfl rfl (Nat.le_of_ble_eq_true rfl) dRW_addWeight_56 ⟨Nat.le_of_ble_eq_true rfl, Nat.le_of_ble_eq_true rfl⟩) rfl (fun h1 hq => ?_)
      obtain ⟨f', g', hR1, hO1⟩ := hq
      exact r_vret C dRW_addWeight_59 (Nat.le_refl _) (Nat.le_refl _) ⟨f', g', by rw [heq]; exact hR1, hO1⟩
  · obtain ⟨r, hr, hrk⟩ := hitK_t (b01_t c_18)
    have hlt := (List.getElem?_eq_some_iff.mp hr).1
    refine r_aload_n (n := 22) C dRW_addWeight_21 rfl rfl ?_
    refine r_get (ci := 0) (n := 25) C hinRW rfl 1 (by decide) tw_34 rfl dRW_addWeight_22 rfl (by assumption) rfl ?_
    refine r_iload (n := 27) C dRW_addWeight_25 rfl rfl ?_
    refine r_dup2 (n := 28) C dRW_addWeight_27 rfl rfl rfl ?_
    refine r_lald (n := 29) C dRW_addWeight_28 rfl (by assumption) p rfl (by omega) (by omega) ?_
    refine r_lload (n := 31) C dRW_addWeight_29 rfl rfl ?_
    refine r_ladd (n := 32) C dRW_addWeight_31 rfl ?_
    refine r_last (n := 33) C dRW_addWeight_32 rfl hW p rfl (by omega) (by omega) ?_
    generalize eh1 : hu h A.2.2.1 _ = h1
    have hA1 := ((congrFun eh1.symm A.1).trans (hu_ne _ _ n13)).trans hA
    have hV1 := ((congrFun eh1.symm A.2.1).trans (hu_ne _ _ n23)).trans hV
    have hW1 := (congrFun eh1.symm A.2.2.1).trans (hu_eq _ _ _)
    have hO1 : Off A h h1 := eh1 ▸ Off.p3 Off.rf _
    refine r_goto (tgt := 59) C dRW_addWeight_33 (by decide) ?_
    have hgp : g p = r.2 := (hE p r hr).2.2.2
    have heq : L.set p (r.1, g p + w) = addW L (a, b, c) w := by rw [addW_at w hpl hr hrk, hrk, hgp]
    have hlen : (addW L (a, b, c) w).length = L.length := by rw [← heq, List.length_set]
    exact r_vret C dRW_addWeight_59 (Nat.le_refl _) (Nat.le_refl _) ⟨_, _, ⟨hA1.trans (by rw [hlen]), hV1, hW1, by rw [hlen]; exact hn, hcap, heq ▸ Enc_set hE hr _⟩, hO1⟩
end
section
/-! ROWS: what goes over all of them -/
theorem nI_i (i : Nat) : nI i + Int32.ofInt 1 = nI (i + 1) := nI_1 i
theorem ftake {p : Rw → Bool} {L : List Rw} {i : Nat} {r : Rw} (h : L[i]? = some r) : ((L.take (i + 1)).filter p).length = ((L.take i).filter p).length + (if p r = true then 1 else 0) := by
  rw [List.take_succ, h]
  by_cases hp : p r = true <;> simp [List.filter_append, hp]
theorem fold_take {β : Type} (F : β → Rw → β) (b : β) {L : List Rw} {i : Nat} {r : Rw} (h : L[i]? = some r) : (L.take (i + 1)).foldl F b = F ((L.take i).foldl F b) r := by
  rw [List.take_succ, h]
  simp [List.foldl_append]
theorem any_take {p : Rw → Bool} {L : List Rw} {i : Nat} {r : Rw} (h : L[i]? = some r) : (L.take (i + 1)).any p = ((L.take i).any p || p r) := by
  rw [List.take_succ, h]
  simp [List.any_append]
theorem all_take {p : Rw → Bool} {L : List Rw} {i : Nat} {r : Rw} (h : L[i]? = some r) : (L.take (i + 1)).all p = ((L.take i).all p && p r) := by
  rw [List.take_succ, h]
  simp [List.all_append]
def sumW (L : List Rw) : Int64 := L.foldl (fun s r => s + r.2) 0
def sumC (c : Nat) (L : List Rw) : Int64 := L.foldl (fun s r => s + r.2 * (colv r.1 c).toInt64) 0
def okW (w : Int64) : Bool := decide (w ≤ 1000000) && decide (-1000000 ≤ w)
def diffs (L M : List Rw) : Nat := (L.filter (fun r => decide (wt M r.1 ≠ r.2))).length + (M.filter (fun r => decide (wt L r.1 = 0))).length
def Dj (A B : Nat × Nat × Nat × Nat) : Prop := A.1 ≠ B.1 ∧ A.2.1 ≠ B.2.1 ∧ A.2.2.1 ≠ B.2.2.1
theorem RA0.keep {o : Om} {h h' : AH} {A B : Nat × Nat × Nat × Nat} {f fb : Nat → Int32} {g gb : Nat → Int64} {L M : List Rw} (hA : RA0 o h A f g L) (hB : RA0 o h B fb gb M) (dj : Dj A B) (off : Off A h h') : RA0 o h' B fb gb M := by
  obtain ⟨a1, a2, a3, -, -, -⟩ := hA
  obtain ⟨b1, b2, b3, b4, b5, b6⟩ := hB
  refine ⟨(off _ dj.1.symm (fun e => ?_) (fun e => ?_)).trans b1, (off _ (fun e => ?_) dj.2.1.symm (fun e => ?_)).trans b2, (off _ (fun e => ?_) (fun e => ?_) dj.2.2.symm).trans b3, b4, b5, b6⟩
  · rw [e, a2] at b1; simp at b1
  · rw [e, a3] at b1; simp at b1
  · rw [e, a1] at b2; simp at b2
  · rw [e, a3] at b2; simp at b2
  · rw [e, a1] at b3; simp at b3
  · rw [e, a2] at b3; simp at b3
set_option maxHeartbeats 4000000 in
set_option maxRecDepth 100000 in
/-- Rows.addRow -/
theorem c_RW_addRow (l : Launch) (o : Om) (h : AH) (A : Nat × Nat × Nat × Nat) (f : Nat → Int32) (g : Nat → Int64) (L : List Rw) (Bb : Nat × Nat × Nat × Nat) (fb : Nat → Int32) (gb : Nat → Int64) (M : List Rw) (i : Nat) (r : Rw) (w : Int64) (hR : RA0 o h A f g L) (hRb : RA0 o h Bb fb gb M) (hi : M[i]? = some r) (hs : Srt L) (hroom : L.length < A.2.2.2) : Mt l o yRW_addRow cRW_addRow 5 none ({ frames := 3, cells := 0, slots := 0, locals := 101 } : Room) [.ref A.1, .ref Bb.1, .int (nI i), .long w] h (QV o (fun h' => ∃ f' g', RA0 o h' A f' g' (addW L r.1 w) ∧ Off A h h')) (0) (0) := by
  refine Met.ofV (by decide) (Nat.le_of_ble_eq_true rfl) (fun K hl ho C => ?_)
  subst hl; subst ho
  obtain ⟨hA, hV, hW, hn, hcap, hE⟩ := id hR
  obtain ⟨hAb, hVb, hWb, hnb, hcapb, hEb⟩ := id hRb
  refine r_aload_n (n := 1) C dRW_addRow_0 rfl rfl ?_
  refine r_aload_n (n := 2) C dRW_addRow_1 rfl rfl ?_
  refine r_iload_n (n := 3) C dRW_addRow_2 rfl rfl ?_
  refine r_iconst (v := 0) (n := 4) C dRW_addRow_3 rfl (by decide) ?_
  refine r_ci (n := 7) (rn_V (z := 2) (ci := 0) (T := TRW) C (c_RW_valueAt (Kl K) (Ko K) h Bb fb gb M i 0 r hRb hi (by decide)) tw_156 tw_157 tw_158 tw_2 tw_159 rfl rfl ndRW_valueAt ⟨Nat.le_of_ble_eq_true rfl, Nat.le_of_ble_eq_true rfl⟩ (by assumption) rfl rfl rfl (Nat.le_of_ble_eq_true rfl) dRW_addRow_4 ⟨Nat.le_of_ble_eq_true rfl, Nat.le_of_ble_eq_true rfl⟩) rfl (fun x h1 hq => ?_)
  obtain ⟨e1, e2⟩ := hq
  subst e1
  rw [e2]
  refine r_aload_n (n := 8) C dRW_addRow_7 rfl rfl ?_
  refine r_iload_n (n := 9) C dRW_addRow_8 rfl rfl ?_
  refine r_iconst (v := 1) (n := 10) C dRW_addRow_9 rfl (by decide) ?_
  refine r_ci (n := 13) (rn_V (z := 2) (ci := 0) (T := TRW) C (c_RW_valueAt (Kl K) (Ko K) h Bb fb gb M i 1 r hRb hi (by decide)) tw_156 tw_157 tw_158 tw_2 tw_159 rfl rfl ndRW_valueAt ⟨Nat.le_of_ble_eq_true rfl, Nat.le_of_ble_eq_true rfl⟩ (by assumption) rfl rfl rfl (Nat.le_of_ble_eq_true rfl) dRW_addRow_10 ⟨Nat.le_of_ble_eq_true rfl, Nat.le_of_ble_eq_true rfl⟩) rfl (fun x h1 hq => ?_)
  obtain ⟨e1, e2⟩ := hq
  subst e1
  rw [e2]
  refine r_aload_n (n := 14) C dRW_addRow_13 rfl rfl ?_
  refine r_iload_n (n := 15) C dRW_addRow_14 rfl rfl ?_
  refine r_iconst (v := 2) (n := 16) C dRW_addRow_15 rfl (by decide) ?_
  refine r_ci (n := 19) (rn_V (z := 2) (ci := 0) (T := TRW) C (c_RW_valueAt (Kl K) (Ko K) h Bb fb gb M i 2 r hRb hi (by decide)) tw_156 tw_157 tw_158 tw_2 tw_159 rfl rfl ndRW_valueAt ⟨Nat.le_of_ble_eq_true rfl, Nat.le_of_ble_eq_true rfl⟩ (by assumption) rfl rfl rfl (Nat.le_of_ble_eq_true rfl) dRW_addRow_16 ⟨Nat.le_of_ble_eq_true rfl, Nat.le_of_ble_eq_true rfl⟩) rfl (fun x h1 hq => ?_)
  obtain ⟨e1, e2⟩ := hq
  subst e1
  rw [e2]
  refine r_lload_n (n := 20) C dRW_addRow_19 rfl rfl ?_
  refine r_cv (n := 23) (rn_V (z := 4) (ci := 0) (T := TRW) C (c_RW_addWeight (Kl K) (Ko K) h A f g L r.1.1 r.1.2.1 r.1.2.2 w hR hs hroom) tw_160 tw_161 tw_162 tw_2 tw_163 rfl rfl ndRW_addWeight ⟨Nat.le_of_ble_eq_true rfl, Nat.le_of_ble_eq_true rfl⟩ (by assumption) rfl rfl rfl (Nat.le_of_ble_eq_true rfl) dRW_addRow_20 ⟨Nat.le_of_ble_eq_true rfl, Nat.le_of_ble_eq_true rfl⟩) rfl (fun h1 hq => ?_)
  exact r_vret C dRW_addRow_23 (Nat.le_refl _) (Nat.le_refl _) hq
set_option maxHeartbeats 4000000 in
set_option maxRecDepth 100000 in
/-- Rows.copyFrom -/
theorem c_RW_copyFrom (l : Launch) (o : Om) (h : AH) (A : Nat × Nat × Nat × Nat) (f : Nat → Int32) (g : Nat → Int64) (L : List Rw) (Bb : Nat × Nat × Nat × Nat) (fb : Nat → Int32) (gb : Nat → Int64) (M : List Rw) (hR : RA0 o h A f g L) (hRb : RA0 o h Bb fb gb M) (dj : Dj A Bb) (hfit : M.length ≤ A.2.2.2) : Mt l o yRW_copyFrom cRW_copyFrom 2 none ({ frames := 1, cells := 0, slots := 0, locals := 48 } : Room) [.ref A.1, .ref Bb.1] h (QV o (fun h' => ∃ f' g', RA0 o h' A f' g' (M) ∧ Off A h h')) (0) (0) := by
  refine Met.ofV (by decide) (Nat.le_of_ble_eq_true rfl) (fun K hl ho C => ?_)
  subst hl; subst ho
  obtain ⟨hA, hV, hW, hn, hcap, hE⟩ := id hR
  obtain ⟨hAb, hVb, hWb, hnb, hcapb, hEb⟩ := id hRb
  obtain ⟨n12, n13, n23⟩ := hR.ne
  refine r_aload_n (n := 1) C dRW_copyFrom_0 rfl rfl ?_
  refine r_aload_n (n := 2) C dRW_copyFrom_1 rfl rfl ?_
  refine r_get (ci := 0) (n := 5) C hinRW rfl 2 (by decide) tw_35 rfl dRW_copyFrom_2 rfl (by assumption) rfl ?_
  refine r_aload_n (n := 6) C dRW_copyFrom_5 rfl rfl ?_
  refine r_get (ci := 0) (n := 9) C hinRW rfl 1 (by decide) tw_34 rfl dRW_copyFrom_6 rfl (by assumption) rfl ?_
  refine r_lalen (n := 10) C dRW_copyFrom_9 rfl (by assumption) ?_
  refine r_mmin (n := 13) C tw_137 tw_138 tw_7 tw_139 (Nat.le_of_ble_eq_true rfl) (Nat.le_of_ble_eq_true rfl) (Nat.zero_le _) (Nat.zero_le _) dRW_copyFrom_10 rfl ?_
  refine V.eqi (y := nI M.length) (if_neg (nI_nlt hfit (by omega))) ?_
  refine r_put (ci := 0) (n := 16) C hinRW tyRW okRW nmRW rfl 2 (by decide) tw_35 rfl rfl (okRW 2 (by decide)) rfl rfl dRW_copyFrom_13 rfl hA (Nat.le_of_ble_eq_true rfl) ?_
  generalize eh1 : hu h A.1 _ = h1
  have hA1 := (congrFun eh1.symm A.1).trans (hu_eq _ _ _)
  have hV1 := ((congrFun eh1.symm A.2.1).trans (hu_ne _ _ (Ne.symm n12))).trans hV
  have hW1 := ((congrFun eh1.symm A.2.2.1).trans (hu_ne _ _ (Ne.symm n13))).trans hW
  have hO1 : Off A h h1 := eh1 ▸ Off.p1 Off.rf _
  obtain ⟨hAb1, hVb1, hWb1, -, -, -⟩ := RA0.keep hR hRb dj hO1
  refine r_aload_n (n := 17) C dRW_copyFrom_16 rfl rfl ?_
  refine r_get (ci := 0) (n := 20) C hinRW rfl 0 (by decide) tw_33 rfl dRW_copyFrom_17 rfl (by assumption) rfl ?_
  refine r_iconst (v := 0) (n := 21) C dRW_copyFrom_20 rfl (by decide) ?_
  refine r_aload_n (n := 22) C dRW_copyFrom_21 rfl rfl ?_
  refine r_get (ci := 0) (n := 25) C hinRW rfl 0 (by decide) tw_33 rfl dRW_copyFrom_22 rfl (by assumption) rfl ?_
  refine r_iconst (v := 0) (n := 26) C dRW_copyFrom_25 rfl (by decide) ?_
  refine r_aload_n (n := 27) C dRW_copyFrom_26 rfl rfl ?_
  refine r_get (ci := 0) (n := 30) C hinRW rfl 2 (by decide) tw_35 rfl dRW_copyFrom_27 rfl (by assumption) rfl ?_
  refine r_iconst (v := 3) (n := 31) C dRW_copyFrom_30 rfl (by decide) ?_
  refine r_imul (n := 32) C dRW_copyFrom_31 rfl ?_
  refine r_copyi (n := 35) C tw_140 tw_142 tw_141 tw_8 dRW_copyFrom_32 rfl hVb1 hV1 0 0 (M.length * 3) nI_0.symm nI_0.symm (ix0 _) (by omega) (by omega) (by omega) (by omega) (Nat.le_of_ble_eq_true rfl) (Nat.le_of_ble_eq_true rfl) ?_
  generalize eh2 : hu h1 A.2.1 _ = h2
  have hA2 := ((congrFun eh2.symm A.1).trans (hu_ne _ _ n12)).trans hA1
  have hV2 := (congrFun eh2.symm A.2.1).trans (hu_eq _ _ _)
  have hW2 := ((congrFun eh2.symm A.2.2.1).trans (hu_ne _ _ (Ne.symm n23))).trans hW1
  have hO2 : Off A h h2 := eh2 ▸ Off.p2 hO1 _
  obtain ⟨hAb2, hVb2, hWb2, -, -, -⟩ := RA0.keep hR hRb dj hO2
  refine r_aload_n (n := 36) C dRW_copyFrom_35 rfl rfl ?_
  refine r_get (ci := 0) (n := 39) C hinRW rfl 1 (by decide) tw_34 rfl dRW_copyFrom_36 rfl (by assumption) rfl ?_
  refine r_iconst (v := 0) (n := 40) C dRW_copyFrom_39 rfl (by decide) ?_
  refine r_aload_n (n := 41) C dRW_copyFrom_40 rfl rfl ?_
  refine r_get (ci := 0) (n := 44) C hinRW rfl 1 (by decide) tw_34 rfl dRW_copyFrom_41 rfl (by assumption) rfl ?_
  refine r_iconst (v := 0) (n := 45) C dRW_copyFrom_44 rfl (by decide) ?_
  refine r_aload_n (n := 46) C dRW_copyFrom_45 rfl rfl ?_
  refine r_get (ci := 0) (n := 49) C hinRW rfl 2 (by decide) tw_35 rfl dRW_copyFrom_46 rfl (by assumption) rfl ?_
  refine r_copyl (n := 52) C tw_140 tw_142 tw_141 tw_8 dRW_copyFrom_49 rfl hWb2 hW2 0 0 M.length nI_0.symm nI_0.symm rfl (by omega) (by omega) (by omega) (by omega) (Nat.le_of_ble_eq_true rfl) (Nat.le_of_ble_eq_true rfl) ?_
  generalize eh3 : hu h2 A.2.2.1 _ = h3
  have hA3 := ((congrFun eh3.symm A.1).trans (hu_ne _ _ n13)).trans hA2
  have hV3 := ((congrFun eh3.symm A.2.1).trans (hu_ne _ _ n23)).trans hV2
  have hW3 := (congrFun eh3.symm A.2.2.1).trans (hu_eq _ _ _)
  have hO3 : Off A h h3 := eh3 ▸ Off.p3 hO2 _
  exact r_vret C dRW_copyFrom_52 (Nat.le_refl _) (Nat.le_refl _) ⟨_, _, ⟨hA3, hV3, hW3, hfit, hcap, Enc_copy hEb rfl⟩, hO3⟩
set_option maxHeartbeats 4000000 in
set_option maxRecDepth 100000 in
/-- Rows.dropZeros -/
theorem c_RW_dropZeros (l : Launch) (o : Om) (h : AH) (A : Nat × Nat × Nat × Nat) (f : Nat → Int32) (g : Nat → Int64) (L : List Rw) (hR : RA0 o h A f g L) : Mt l o yRW_dropZeros cRW_dropZeros 3 none ({ frames := 1, cells := 0, slots := 0, locals := 48 } : Room) [.ref A.1] h (QV o (fun h' => ∃ f' g', RA0 o h' A f' g' (nz L) ∧ Off A h h')) (0) (0) := by
  refine Met.ofV (by decide) (Nat.le_of_ble_eq_true rfl) (fun K hl ho C => ?_)
  subst hl; subst ho
  obtain ⟨hA, hV, hW, hn, hcap, hE⟩ := id hR
  obtain ⟨n12, n13, n23⟩ := hR.ne
  have loop : ∀ (m i : Nat) (h1 : AH) (f1 : Nat → Int32) (g1 : Nat → Int64), L.length - i = m → i ≤ L.length → h1 A.1 = some (.inr (0, [.ref A.2.1, .ref A.2.2.1, .int (nI L.length)])) → h1 A.2.1 = some (.inl ((Ko K).2.1 0, A.2.2.2 * 3, .inl f1)) → h1 A.2.2.1 = some (.inl ((Ko K).2.1 1, A.2.2.2, .inr (.inl g1))) → Off A h h1 → Enc f1 g1 (nz (L.take i)) → (∀ (j : Nat) (q : Rw), i ≤ j → L[j]? = some q → EncA f1 g1 j q) → V K h1 0 0 (EndQ K (QV (Ko K) (fun h' => ∃ f' g', RA0 (Ko K) h' A f' g' (nz L) ∧ Off A h h')) 0 0) 4 [(0, .ref A.1), (1, .int (nI (nz (L.take i)).length)), (2, .int (nI i))] [] := by
    intro m
    induction m using Nat.strongRecOn with
    | _ m ih =>
      intro i h1 f1 g1 hm hi hA1 hV1 hW1 hO1 hE1 hrest
      have hkl : (nz (L.take i)).length ≤ i := nz_len
      generalize hk : (nz (L.take i)).length = k at hkl ⊢
      refine r_iload_n (n := 5) C dRW_dropZeros_4 rfl rfl ?_
      refine r_aload_n (n := 6) C dRW_dropZeros_5 rfl rfl ?_
      refine r_get (ci := 0) (n := 9) C hinRW rfl 2 (by decide) tw_35 rfl dRW_dropZeros_6 rfl (by assumption) rfl ?_
      refine r_icmp_ge (tgt := 62) (n := 12) C dRW_dropZeros_9 (by decide) rfl (fun c_9 => ?_) (fun c_9 => ?_)
      · have hie : i = L.length := by have := (nI_leI (by omega) (by omega)).mp c_9; omega
        subst hie
        rw [List.take_length] at hE1 hk
        refine r_aload_n (n := 63) C dRW_dropZeros_62 rfl rfl ?_
        refine r_iload_n (n := 64) C dRW_dropZeros_63 rfl rfl ?_
        refine r_put (ci := 0) (n := 67) C hinRW tyRW okRW nmRW rfl 2 (by decide) tw_35 rfl rfl (okRW 2 (by decide)) rfl rfl dRW_dropZeros_64 rfl hA1 (Nat.le_of_ble_eq_true rfl) ?_
        generalize eh4 : hu h1 A.1 _ = h4
        have hA4 := (congrFun eh4.symm A.1).trans (hu_eq _ _ _)
        have hV4 := ((congrFun eh4.symm A.2.1).trans (hu_ne _ _ (Ne.symm n12))).trans hV1
        have hW4 := ((congrFun eh4.symm A.2.2.1).trans (hu_ne _ _ (Ne.symm n13))).trans hW1
        have hO4 : Off A h h4 := eh4 ▸ Off.p1 hO1 _
        exact r_vret C dRW_dropZeros_67 (Nat.le_refl _) (Nat.le_refl _) ⟨_, _, ⟨hA4.trans (by rw [hk]; rfl), hV4, hW4, by omega, hcap, hE1⟩, hO4⟩
      · have hlt : i < L.length := by
          rcases Nat.lt_or_ge i L.length with q | q
          · exact q
          · exact absurd (nI_le q (by omega)) c_9
        obtain ⟨r, hr⟩ : ∃ r, L[i]? = some r := ⟨_, List.getElem?_eq_getElem hlt⟩
        refine r_aload_n (n := 13) C dRW_dropZeros_12 rfl rfl ?_
        refine r_get (ci := 0) (n := 16) C hinRW rfl 1 (by decide) tw_34 rfl dRW_dropZeros_13 rfl (by assumption) rfl ?_
        refine r_iload_n (n := 17) C dRW_dropZeros_16 rfl rfl ?_
        refine r_lald (n := 18) C dRW_dropZeros_17 rfl hW1 i rfl (by omega) (by omega) ?_
        refine r_lconst (v := 0) (n := 19) C dRW_dropZeros_18 rfl (by decide) ?_
        refine r_lcmp (n := 20) C dRW_dropZeros_19 rfl ?_
        refine r_if_eq (tgt := 56) (n := 23) C dRW_dropZeros_20 (by decide) rfl (fun c_20 => ?_) (fun c_20 => ?_)
        · have hg := (hrest i r (Nat.le_refl _) hr).2.2.2
          have hz : r.2 = 0 := by rw [← hg]; exact (lg_cmp_eq _ _).mp c_20
          have hnt := nz_take hr
          rw [if_pos hz, List.append_nil] at hnt
          refine r_iinc (n := 59) C dRW_dropZeros_56 rfl rfl (nI_i i) (by decide) ?_
          refine r_goto (tgt := 4) C dRW_dropZeros_59 (by decide) ?_
          refine V.byk (ls' := [(0, .ref A.1), (1, .int (nI k)), (2, .int (nI (i + 1)))]) rfl ?_
          rw [← hk, ← hnt]
          exact ih _ (by omega) (i + 1) h1 f1 g1 rfl (by omega) hA1 hV1 hW1 hO1 (by rw [hnt]; exact hE1) (fun j q hj hq => hrest j q (by omega) hq)
        · have hg := (hrest i r (Nat.le_refl _) hr).2.2.2
          have hz : ¬ r.2 = 0 := by rw [← hg]; exact fun e => c_20 ((lg_cmp_eq _ _).mpr e)
          have hnt := nz_take hr
          rw [if_neg hz] at hnt
          refine r_aload_n (n := 24) C dRW_dropZeros_23 rfl rfl ?_
          refine r_get (ci := 0) (n := 27) C hinRW rfl 0 (by decide) tw_33 rfl dRW_dropZeros_24 rfl (by assumption) rfl ?_
          refine r_iload_n (n := 28) C dRW_dropZeros_27 rfl rfl ?_
          refine r_iconst (v := 3) (n := 29) C dRW_dropZeros_28 rfl (by decide) ?_
          refine r_imul (n := 30) C dRW_dropZeros_29 rfl ?_
          refine r_aload_n (n := 31) C dRW_dropZeros_30 rfl rfl ?_
          refine r_get (ci := 0) (n := 34) C hinRW rfl 0 (by decide) tw_33 rfl dRW_dropZeros_31 rfl (by assumption) rfl ?_
          refine r_iload_n (n := 35) C dRW_dropZeros_34 rfl rfl ?_
          refine r_iconst (v := 3) (n := 36) C dRW_dropZeros_35 rfl (by decide) ?_
          refine r_imul (n := 37) C dRW_dropZeros_36 rfl ?_
          refine r_iconst (v := 3) (n := 38) C dRW_dropZeros_37 rfl (by decide) ?_
          refine r_copyi (n := 41) C tw_140 tw_142 tw_141 tw_8 dRW_dropZeros_38 rfl hV1 hV1 (i * 3) (k * 3) 3 (ix0 i) (ix0 k) rfl (by omega) (by omega) (by omega) (by omega) (Nat.le_of_ble_eq_true rfl) (Nat.le_of_ble_eq_true rfl) ?_
          generalize eh2 : hu h1 A.2.1 _ = h2
          have hA2 := ((congrFun eh2.symm A.1).trans (hu_ne _ _ n12)).trans hA1
          have hV2 := (congrFun eh2.symm A.2.1).trans (hu_eq _ _ _)
          have hW2 := ((congrFun eh2.symm A.2.2.1).trans (hu_ne _ _ (Ne.symm n23))).trans hW1
          have hO2 : Off A h h2 := eh2 ▸ Off.p2 hO1 _
          refine r_aload_n (n := 42) C dRW_dropZeros_41 rfl rfl ?_
          refine r_get (ci := 0) (n := 45) C hinRW rfl 1 (by decide) tw_34 rfl dRW_dropZeros_42 rfl (by assumption) rfl ?_
          refine r_iload_n (n := 46) C dRW_dropZeros_45 rfl rfl ?_
          refine r_aload_n (n := 47) C dRW_dropZeros_46 rfl rfl ?_
          refine r_get (ci := 0) (n := 50) C hinRW rfl 1 (by decide) tw_34 rfl dRW_dropZeros_47 rfl (by assumption) rfl ?_
          refine r_iload_n (n := 51) C dRW_dropZeros_50 rfl rfl ?_
          refine r_lald (n := 52) C dRW_dropZeros_51 rfl hW2 i rfl (by omega) (by omega) ?_
          refine r_last (n := 53) C dRW_dropZeros_52 rfl hW2 k rfl (by omega) (by omega) ?_
          generalize eh3 : hu h2 A.2.2.1 _ = h3
          have hA3 := ((congrFun eh3.symm A.1).trans (hu_ne _ _ n13)).trans hA2
          have hV3 := ((congrFun eh3.symm A.2.1).trans (hu_ne _ _ n23)).trans hV2
          have hW3 := (congrFun eh3.symm A.2.2.1).trans (hu_eq _ _ _)
          have hO3 : Off A h h3 := eh3 ▸ Off.p3 hO2 _
          refine r_iinc (n := 56) C dRW_dropZeros_53 rfl rfl (nI_i k) (by decide) ?_
          refine r_iinc (n := 59) C dRW_dropZeros_56 rfl rfl (nI_i i) (by decide) ?_
          refine r_goto (tgt := 4) C dRW_dropZeros_59 (by decide) ?_
          have hl2 : (nz (L.take (i + 1))).length = k + 1 := by rw [hnt, List.length_append, hk]; rfl
          refine V.byk (ls' := [(0, .ref A.1), (1, .int (nI (k + 1))), (2, .int (nI (i + 1)))]) rfl ?_
          rw [← hl2]
          refine ih _ (by omega) (i + 1) h3 _ _ rfl (by omega) hA3 hV3 hW3 hO3 ?_ (fun j q hj hq => ?_)
          · rw [hnt]
            obtain ⟨e1, e2, e3, e4⟩ := hrest i r (Nat.le_refl _) hr
            refine Enc_snoc hE1 (fun j hj => pk_cpy_out (Or.inl (by omega))) (fun j hj => pk_uLn (by omega)) ?_
            rw [hk]
            refine ⟨?_, ?_, ?_, ?_⟩
            · rw [pk_cpy_in (by omega) (by omega), ← e1]; congr 1; omega
            · rw [pk_cpy_in (by omega) (by omega), ← e2]; congr 1; omega
            · rw [pk_cpy_in (by omega) (by omega), ← e3]; congr 1; omega
            · rw [pk_uLs]; exact e4
          · obtain ⟨e1, e2, e3, e4⟩ := hrest j q (by omega) hq
            exact ⟨by rw [pk_cpy_out (Or.inr (by omega))]; exact e1, by rw [pk_cpy_out (Or.inr (by omega))]; exact e2, by rw [pk_cpy_out (Or.inr (by omega))]; exact e3, by rw [pk_uLn (by omega)]; exact e4⟩
  refine r_iconst (v := 0) (n := 1) C dRW_dropZeros_0 rfl (by decide) ?_
  refine r_istore_n (n := 2) C dRW_dropZeros_1 rfl (by decide) ?_
  refine r_iconst (v := 0) (n := 3) C dRW_dropZeros_2 rfl (by decide) ?_
  refine r_istore_n (n := 4) C dRW_dropZeros_3 rfl (by decide) ?_
  refine V.byk (ls' := [(0, .ref A.1), (1, .int (nI 0)), (2, .int (nI 0))]) rfl ?_
  exact loop _ 0 h f g rfl (Nat.zero_le _) hA hV hW Off.rf (Enc_nil f g) (fun j q _ hq => hE j q hq)
set_option maxHeartbeats 4000000 in
set_option maxRecDepth 100000 in
/-- Rows.sumOfWeights -/
theorem c_RW_sumOfWeights (l : Launch) (o : Om) (h : AH) (A : Nat × Nat × Nat × Nat) (f : Nat → Int32) (g : Nat → Int64) (L : List Rw) (hR : RA0 o h A f g L) : Mt l o yRW_sumOfWeights cRW_sumOfWeights 4 (some .long) ({ frames := 0, cells := 0, slots := 0, locals := 0 } : Room) [.ref A.1] h (QL o (fun x h' => x = sumW L ∧ h' = h)) (0) (0) := by
  refine Met.ofV (by decide) (Nat.le_of_ble_eq_true rfl) (fun K hl ho C => ?_)
  subst hl; subst ho
  obtain ⟨hA, hV, hW, hn, hcap, hE⟩ := id hR
  have loop : ∀ (m i : Nat), L.length - i = m → i ≤ L.length → V K h 0 0 (EndQ K (QL (Ko K) (fun x h' => x = sumW L ∧ h' = h)) 0 0) 4 [(0, .ref A.1), (1, .long (sumW (L.take i))), (3, .int (nI i))] [] := by
    intro m
    induction m using Nat.strongRecOn with
    | _ m ih =>
      intro i hm hi
      refine r_iload_n (n := 5) C dRW_sumOfWeights_4 rfl rfl ?_
      refine r_aload_n (n := 6) C dRW_sumOfWeights_5 rfl rfl ?_
      refine r_get (ci := 0) (n := 9) C hinRW rfl 2 (by decide) tw_35 rfl dRW_sumOfWeights_6 rfl (by assumption) rfl ?_
      refine r_icmp_ge (tgt := 27) (n := 12) C dRW_sumOfWeights_9 (by decide) rfl (fun c_9 => ?_) (fun c_9 => ?_)
      · have hie : i = L.length := by have := (nI_leI (by omega) (by omega)).mp c_9; omega
        refine r_lload_n (n := 28) C dRW_sumOfWeights_27 rfl rfl ?_
        exact r_lret C dRW_sumOfWeights_28 (Nat.le_refl _) (Nat.le_refl _) ⟨by rw [hie, List.take_length], rfl⟩
      · have hlt : i < L.length := by
          rcases Nat.lt_or_ge i L.length with q | q
          · exact q
          · exact absurd (nI_le q (by omega)) c_9
        obtain ⟨r, hr⟩ : ∃ r, L[i]? = some r := ⟨_, List.getElem?_eq_getElem hlt⟩
        refine r_lload_n (n := 13) C dRW_sumOfWeights_12 rfl rfl ?_
        refine r_aload_n (n := 14) C dRW_sumOfWeights_13 rfl rfl ?_
        refine r_get (ci := 0) (n := 17) C hinRW rfl 1 (by decide) tw_34 rfl dRW_sumOfWeights_14 rfl (by assumption) rfl ?_
        refine r_iload_n (n := 18) C dRW_sumOfWeights_17 rfl rfl ?_
        refine r_lald (n := 19) C dRW_sumOfWeights_18 rfl (by assumption) i rfl (by omega) (by omega) ?_
        refine r_ladd (n := 20) C dRW_sumOfWeights_19 rfl ?_
        refine V.eql (y := sumW (L.take (i + 1))) (by rw [(hE i r hr).2.2.2]; exact (fold_take (fun s r => s + r.2) 0 hr).symm) ?_
        refine r_lstore_n (n := 21) C dRW_sumOfWeights_20 rfl (by decide) ?_
        refine r_iinc (n := 24) C dRW_sumOfWeights_21 rfl rfl (nI_i i) (by decide) ?_
        refine r_goto (tgt := 4) C dRW_sumOfWeights_24 (by decide) ?_
        refine V.byk (ls' := [(0, .ref A.1), (1, .long (sumW (L.take (i + 1)))), (3, .int (nI (i + 1)))]) rfl ?_
        exact ih _ (by omega) (i + 1) rfl (by omega)
  refine r_lconst (v := 0) (n := 1) C dRW_sumOfWeights_0 rfl (by decide) ?_
  refine r_lstore_n (n := 2) C dRW_sumOfWeights_1 rfl (by decide) ?_
  refine r_iconst (v := 0) (n := 3) C dRW_sumOfWeights_2 rfl (by decide) ?_
  refine r_istore_n (n := 4) C dRW_sumOfWeights_3 rfl (by decide) ?_
  refine V.byk (ls' := [(0, .ref A.1), (1, .long 0), (3, .int (nI 0))]) rfl ?_
  exact loop _ 0 rfl (Nat.zero_le _)
set_option maxHeartbeats 4000000 in
set_option maxRecDepth 100000 in
/-- Rows.weightedSum -/
theorem c_RW_weightedSum (l : Launch) (o : Om) (h : AH) (A : Nat × Nat × Nat × Nat) (f : Nat → Int32) (g : Nat → Int64) (L : List Rw) (c : Nat) (hR : RA0 o h A f g L) (hc : c < 3) : Mt l o yRW_weightedSum cRW_weightedSum 5 (some .long) ({ frames := 1, cells := 0, slots := 0, locals := 22 } : Room) [.ref A.1, .int (nI c)] h (QL o (fun x h' => x = sumC c L ∧ h' = h)) (0) (0) := by
  refine Met.ofV (by decide) (Nat.le_of_ble_eq_true rfl) (fun K hl ho C => ?_)
  subst hl; subst ho
  obtain ⟨hA, hV, hW, hn, hcap, hE⟩ := id hR
  have loop : ∀ (m i : Nat), L.length - i = m → i ≤ L.length → V K h 0 0 (EndQ K (QL (Ko K) (fun x h' => x = sumC c L ∧ h' = h)) 0 0) 5 [(0, .ref A.1), (1, .int (nI c)), (2, .long (sumC c (L.take i))), (4, .int (nI i))] [] := by
    intro m
    induction m using Nat.strongRecOn with
    | _ m ih =>
      intro i hm hi
      refine r_iload (n := 7) C dRW_weightedSum_5 rfl rfl ?_
      refine r_aload_n (n := 8) C dRW_weightedSum_7 rfl rfl ?_
      refine r_get (ci := 0) (n := 11) C hinRW rfl 2 (by decide) tw_35 rfl dRW_weightedSum_8 rfl (by assumption) rfl ?_
      refine r_icmp_ge (tgt := 39) (n := 14) C dRW_weightedSum_11 (by decide) rfl (fun c_11 => ?_) (fun c_11 => ?_)
      · have hie : i = L.length := by have := (nI_leI (by omega) (by omega)).mp c_11; omega
        refine r_lload_n (n := 40) C dRW_weightedSum_39 rfl rfl ?_
        exact r_lret C dRW_weightedSum_40 (Nat.le_refl _) (Nat.le_refl _) ⟨by rw [hie, List.take_length], rfl⟩
      · have hlt : i < L.length := by
          rcases Nat.lt_or_ge i L.length with q | q
          · exact q
          · exact absurd (nI_le q (by omega)) c_11
        obtain ⟨r, hr⟩ : ∃ r, L[i]? = some r := ⟨_, List.getElem?_eq_getElem hlt⟩
        refine r_lload_n (n := 15) C dRW_weightedSum_14 rfl rfl ?_
        refine r_aload_n (n := 16) C dRW_weightedSum_15 rfl rfl ?_
        refine r_get (ci := 0) (n := 19) C hinRW rfl 1 (by decide) tw_34 rfl dRW_weightedSum_16 rfl (by assumption) rfl ?_
        refine r_iload (n := 21) C dRW_weightedSum_19 rfl rfl ?_
        refine r_lald (n := 22) C dRW_weightedSum_21 rfl (by assumption) i rfl (by omega) (by omega) ?_
        refine r_aload_n (n := 23) C dRW_weightedSum_22 rfl rfl ?_
        refine r_iload (n := 25) C dRW_weightedSum_23 rfl rfl ?_
        refine r_iload_n (n := 26) C dRW_weightedSum_25 rfl rfl ?_
        refine r_ci (n := 29) (rn_V (z := 2) (ci := 0) (T := TRW) C (c_RW_valueAt (Kl K) (Ko K) h A f g L i c r hR hr hc) tw_156 tw_157 tw_158 tw_2 tw_159 rfl rfl ndRW_valueAt ⟨Nat.le_of_ble_eq_true rfl, Nat.le_of_ble_eq_true rfl⟩ (by assumption) rfl rfl rfl (Nat.le_of_ble_eq_true rfl) dRW_weightedSum_26 ⟨Nat.le_of_ble_eq_true rfl, Nat.le_of_ble_eq_true rfl⟩) rfl (fun x h1 hq => ?_)
        obtain ⟨e1, e2⟩ := hq
        subst e1
        rw [e2]
        refine r_i2l (n := 30) C dRW_weightedSum_29 rfl ?_
        refine r_lmul (n := 31) C dRW_weightedSum_30 rfl ?_
        refine r_ladd (n := 32) C dRW_weightedSum_31 rfl ?_
        refine V.eql (y := sumC c (L.take (i + 1))) (by rw [(hE i r hr).2.2.2]; exact (fold_take (fun s r => s + r.2 * (colv r.1 c).toInt64) 0 hr).symm) ?_
        refine r_lstore_n (n := 33) C dRW_weightedSum_32 rfl (by decide) ?_
        refine r_iinc (n := 36) C dRW_weightedSum_33 rfl rfl (nI_i i) (by decide) ?_
        refine r_goto (tgt := 5) C dRW_weightedSum_36 (by decide) ?_
        refine V.byk (ls' := [(0, .ref A.1), (1, .int (nI c)), (2, .long (sumC c (L.take (i + 1)))), (4, .int (nI (i + 1)))]) rfl ?_
        exact ih _ (by omega) (i + 1) rfl (by omega)
  refine r_lconst (v := 0) (n := 1) C dRW_weightedSum_0 rfl (by decide) ?_
  refine r_lstore_n (n := 2) C dRW_weightedSum_1 rfl (by decide) ?_
  refine r_iconst (v := 0) (n := 3) C dRW_weightedSum_2 rfl (by decide) ?_
  refine r_istore (n := 5) C dRW_weightedSum_3 rfl (by decide) ?_
  refine V.byk (ls' := [(0, .ref A.1), (1, .int (nI c)), (2, .long 0), (4, .int (nI 0))]) rfl ?_
  exact loop _ 0 rfl (Nat.zero_le _)
set_option maxHeartbeats 4000000 in
set_option maxRecDepth 100000 in
/-- Rows.hasBelowZero -/
theorem c_RW_hasBelowZero (l : Launch) (o : Om) (h : AH) (A : Nat × Nat × Nat × Nat) (f : Nat → Int32) (g : Nat → Int64) (L : List Rw) (hR : RA0 o h A f g L) : Mt l o yRW_hasBelowZero cRW_hasBelowZero 2 (some .boolean) ({ frames := 0, cells := 0, slots := 0, locals := 0 } : Room) [.ref A.1] h (QI o (fun x h' => x = b01 (L.any (fun r => decide (r.2 < 0))) ∧ h' = h)) (0) (0) := by
  refine Met.ofV (by decide) (Nat.le_of_ble_eq_true rfl) (fun K hl ho C => ?_)
  subst hl; subst ho
  obtain ⟨hA, hV, hW, hn, hcap, hE⟩ := id hR
  have loop : ∀ (m i : Nat), L.length - i = m → i ≤ L.length → (L.take i).any (fun r => decide (r.2 < 0)) = false → V K h 0 0 (EndQ K (QI (Ko K) (fun x h' => x = b01 (L.any (fun r => decide (r.2 < 0))) ∧ h' = h)) 0 0) 2 [(0, .ref A.1), (1, .int (nI i))] [] := by
    intro m
    induction m using Nat.strongRecOn with
    | _ m ih =>
      intro i hm hi hany
      refine r_iload_n (n := 3) C dRW_hasBelowZero_2 rfl rfl ?_
      refine r_aload_n (n := 4) C dRW_hasBelowZero_3 rfl rfl ?_
      refine r_get (ci := 0) (n := 7) C hinRW rfl 2 (by decide) tw_35 rfl dRW_hasBelowZero_4 rfl (by assumption) rfl ?_
      refine r_icmp_ge (tgt := 29) (n := 10) C dRW_hasBelowZero_7 (by decide) rfl (fun c_7 => ?_) (fun c_7 => ?_)
      · have hie : i = L.length := by have := (nI_leI (by omega) (by omega)).mp c_7; omega
        refine r_iconst (v := 0) (n := 30) C dRW_hasBelowZero_29 rfl (by decide) ?_
        exact r_zret C dRW_hasBelowZero_30 rfl (Nat.le_refl _) (Nat.le_refl _) ⟨by rw [hie, List.take_length] at hany; rw [hany]; rfl, rfl⟩
      · have hlt : i < L.length := by
          rcases Nat.lt_or_ge i L.length with q | q
          · exact q
          · exact absurd (nI_le q (by omega)) c_7
        obtain ⟨r, hr⟩ : ∃ r, L[i]? = some r := ⟨_, List.getElem?_eq_getElem hlt⟩
        refine r_aload_n (n := 11) C dRW_hasBelowZero_10 rfl rfl ?_
        refine r_get (ci := 0) (n := 14) C hinRW rfl 1 (by decide) tw_34 rfl dRW_hasBelowZero_11 rfl (by assumption) rfl ?_
        refine r_iload_n (n := 15) C dRW_hasBelowZero_14 rfl rfl ?_
        refine r_lald (n := 16) C dRW_hasBelowZero_15 rfl (by assumption) i rfl (by omega) (by omega) ?_
        refine r_lconst (v := 0) (n := 17) C dRW_hasBelowZero_16 rfl (by decide) ?_
        refine r_lcmp (n := 18) C dRW_hasBelowZero_17 rfl ?_
        refine r_if_ge (tgt := 23) (n := 21) C dRW_hasBelowZero_18 (by decide) rfl (fun c_18 => ?_) (fun c_18 => ?_)
        · have hz : ¬ r.2 < 0 := by have := (lg_cmp_ge _ _).mp c_18; rw [(hE i r hr).2.2.2] at this; exact Int64.not_lt.mpr this
          refine r_iinc (n := 26) C dRW_hasBelowZero_23 rfl rfl (nI_i i) (by decide) ?_
          refine r_goto (tgt := 2) C dRW_hasBelowZero_26 (by decide) ?_
          refine V.byk (ls' := [(0, .ref A.1), (1, .int (nI (i + 1)))]) rfl ?_
          exact ih _ (by omega) (i + 1) rfl (by omega) (by rw [any_take hr, hany]; simp [hz])
        · have hz : r.2 < 0 := by rw [← (hE i r hr).2.2.2]; exact Int64.not_le.mp (fun e => c_18 ((lg_cmp_ge _ _).mpr e))
          refine r_iconst (v := 1) (n := 22) C dRW_hasBelowZero_21 rfl (by decide) ?_
          exact r_zret C dRW_hasBelowZero_22 rfl (Nat.le_refl _) (Nat.le_refl _) ⟨by rw [List.any_eq_true.mpr ⟨r, List.mem_of_getElem? hr, by simpa using hz⟩]; rfl, rfl⟩
  refine r_iconst (v := 0) (n := 1) C dRW_hasBelowZero_0 rfl (by decide) ?_
  refine r_istore_n (n := 2) C dRW_hasBelowZero_1 rfl (by decide) ?_
  refine V.byk (ls' := [(0, .ref A.1), (1, .int (nI 0))]) rfl ?_
  exact loop _ 0 rfl (Nat.zero_le _) rfl
set_option maxHeartbeats 4000000 in
set_option maxRecDepth 100000 in
/-- Rows.canHold -/
theorem c_RW_canHold (l : Launch) (o : Om) (h : AH) (A : Nat × Nat × Nat × Nat) (f : Nat → Int32) (g : Nat → Int64) (L : List Rw) (Bb : Nat × Nat × Nat × Nat) (fb : Nat → Int32) (gb : Nat → Int64) (M : List Rw) (hR : RA0 o h A f g L) (hRb : RA0 o h Bb fb gb M) : Mt l o yRW_canHold cRW_canHold 3 (some .boolean) ({ frames := 0, cells := 0, slots := 0, locals := 0 } : Room) [.ref A.1, .ref Bb.1] h (QI o (fun x h' => x = b01 (decide (M.length ≤ A.2.2.2) && M.all (fun r => okW r.2)) ∧ h' = h)) (0) (0) := by
  refine Met.ofV (by decide) (Nat.le_of_ble_eq_true rfl) (fun K hl ho C => ?_)
  subst hl; subst ho
  obtain ⟨hA, hV, hW, hn, hcap, hE⟩ := id hR
  obtain ⟨hAb, hVb, hWb, hnb, hcapb, hEb⟩ := id hRb
  have loop : ∀ (m i : Nat), M.length - i = m → i ≤ M.length → M.length ≤ A.2.2.2 → (M.take i).all (fun r => okW r.2) = true → V K h 0 0 (EndQ K (QI (Ko K) (fun x h' => x = b01 (decide (M.length ≤ A.2.2.2) && M.all (fun r => okW r.2)) ∧ h' = h)) 0 0) 16 [(0, .ref A.1), (1, .ref Bb.1), (2, .int (nI i))] [] := by
    intro m
    induction m using Nat.strongRecOn with
    | _ m ih =>
      intro i hm hi hfit hall
      refine r_iload_n (n := 17) C dRW_canHold_16 rfl rfl ?_
      refine r_aload_n (n := 18) C dRW_canHold_17 rfl rfl ?_
      refine r_get (ci := 0) (n := 21) C hinRW rfl 2 (by decide) tw_35 rfl dRW_canHold_18 rfl (by assumption) rfl ?_
      refine r_icmp_ge (tgt := 58) (n := 24) C dRW_canHold_21 (by decide) rfl (fun c_21 => ?_) (fun c_21 => ?_)
      · have hie : i = M.length := by have := (nI_leI (by omega) (by omega)).mp c_21; omega
        refine r_iconst (v := 1) (n := 59) C dRW_canHold_58 rfl (by decide) ?_
        exact r_zret C dRW_canHold_59 rfl (Nat.le_refl _) (Nat.le_refl _) ⟨by rw [hie, List.take_length] at hall; rw [hall, decide_eq_true hfit]; rfl, rfl⟩
      · have hlt : i < M.length := by
          rcases Nat.lt_or_ge i M.length with q | q
          · exact q
          · exact absurd (nI_le q (by omega)) c_21
        obtain ⟨r, hr⟩ : ∃ r, M[i]? = some r := ⟨_, List.getElem?_eq_getElem hlt⟩
        have hg := (hEb i r hr).2.2.2
        refine r_aload_n (n := 25) C dRW_canHold_24 rfl rfl ?_
        refine r_get (ci := 0) (n := 28) C hinRW rfl 1 (by decide) tw_34 rfl dRW_canHold_25 rfl (by assumption) rfl ?_
        refine r_iload_n (n := 29) C dRW_canHold_28 rfl rfl ?_
        refine r_lald (n := 30) C dRW_canHold_29 rfl hWb i rfl (by omega) (by omega) ?_
        refine r_ldc2 (n := 33) C tw_287 dRW_canHold_30 rfl ?_
        refine r_lcmp (n := 34) C dRW_canHold_33 rfl ?_
        refine r_if_gt (tgt := 50) (n := 37) C dRW_canHold_34 (by decide) rfl (fun c_34 => ?_) (fun c_34 => ?_)
        · have hz : okW r.2 = false := by
            have := (lg_cmp_gt _ _).mp c_34
            rw [hg] at this
            unfold okW
            rw [decide_eq_false (Int64.not_le.mpr this), Bool.false_and]
          refine r_iconst (v := 0) (n := 51) C dRW_canHold_50 rfl (by decide) ?_
          exact r_zret C dRW_canHold_51 rfl (Nat.le_refl _) (Nat.le_refl _) ⟨by rw [show M.all (fun r => okW r.2) = false from Bool.eq_false_iff.mpr (fun e => by have := List.all_eq_true.mp e r (List.mem_of_getElem? hr); rw [hz] at this; cases this), Bool.and_false]; rfl, rfl⟩
        · have hy1 : r.2 ≤ 1000000 := by rw [← hg]; exact Int64.not_lt.mp (fun e => c_34 ((lg_cmp_gt _ _).mpr e))
          refine r_aload_n (n := 38) C dRW_canHold_37 rfl rfl ?_
          refine r_get (ci := 0) (n := 41) C hinRW rfl 1 (by decide) tw_34 rfl dRW_canHold_38 rfl (by assumption) rfl ?_
          refine r_iload_n (n := 42) C dRW_canHold_41 rfl rfl ?_
          refine r_lald (n := 43) C dRW_canHold_42 rfl hWb i rfl (by omega) (by omega) ?_
          refine r_ldc2 (n := 46) C tw_288 dRW_canHold_43 rfl ?_
          refine r_lcmp (n := 47) C dRW_canHold_46 rfl ?_
          refine r_if_ge (tgt := 52) (n := 50) C dRW_canHold_47 (by decide) rfl (fun c_47 => ?_) (fun c_47 => ?_)
          · have hy2 : -1000000 ≤ r.2 := by rw [← hg]; exact (lg_cmp_ge _ _).mp c_47
            refine r_iinc (n := 55) C dRW_canHold_52 rfl rfl (nI_i i) (by decide) ?_
            refine r_goto (tgt := 16) C dRW_canHold_55 (by decide) ?_
            refine V.byk (ls' := [(0, .ref A.1), (1, .ref Bb.1), (2, .int (nI (i + 1)))]) rfl ?_
            exact ih _ (by omega) (i + 1) rfl (by omega) hfit (by rw [all_take hr, hall]; simp [okW, hy1, hy2])
          · have hz : okW r.2 = false := by
              have hy2 : ¬ -1000000 ≤ r.2 := by rw [← hg]; exact fun e => c_47 ((lg_cmp_ge _ _).mpr e)
              unfold okW
              rw [decide_eq_false hy2, Bool.and_false]
            refine r_iconst (v := 0) (n := 51) C dRW_canHold_50 rfl (by decide) ?_
            exact r_zret C dRW_canHold_51 rfl (Nat.le_refl _) (Nat.le_refl _) ⟨by rw [show M.all (fun r => okW r.2) = false from Bool.eq_false_iff.mpr (fun e => by have := List.all_eq_true.mp e r (List.mem_of_getElem? hr); rw [hz] at this; cases this), Bool.and_false]; rfl, rfl⟩
  refine r_aload_n (n := 1) C dRW_canHold_0 rfl rfl ?_
  refine r_get (ci := 0) (n := 4) C hinRW rfl 2 (by decide) tw_35 rfl dRW_canHold_1 rfl (by assumption) rfl ?_
  refine r_aload_n (n := 5) C dRW_canHold_4 rfl rfl ?_
  refine r_get (ci := 0) (n := 8) C hinRW rfl 1 (by decide) tw_34 rfl dRW_canHold_5 rfl (by assumption) rfl ?_
  refine r_lalen (n := 9) C dRW_canHold_8 rfl (by assumption) ?_
  refine r_icmp_le (tgt := 14) (n := 12) C dRW_canHold_9 (by decide) rfl (fun c_9 => ?_) (fun c_9 => ?_)
  · have hfit : M.length ≤ A.2.2.2 := (nI_leI (by omega) (by omega)).mp c_9
    refine r_iconst (v := 0) (n := 15) C dRW_canHold_14 rfl (by decide) ?_
    refine r_istore_n (n := 16) C dRW_canHold_15 rfl (by decide) ?_
    refine V.byk (ls' := [(0, .ref A.1), (1, .ref Bb.1), (2, .int (nI 0))]) rfl ?_
    exact loop _ 0 rfl (Nat.zero_le _) hfit rfl
  · have hfit : ¬ M.length ≤ A.2.2.2 := fun e => c_9 (nI_le e (by omega))
    refine r_iconst (v := 0) (n := 13) C dRW_canHold_12 rfl (by decide) ?_
    exact r_zret C dRW_canHold_13 rfl (Nat.le_refl _) (Nat.le_refl _) ⟨by rw [decide_eq_false hfit]; rfl, rfl⟩
end
section
/-! ROWS: differencesFrom, the constructor -/
set_option maxHeartbeats 4000000 in
set_option maxRecDepth 100000 in
/-- Rows.differencesFrom -/
theorem c_RW_differencesFrom (l : Launch) (o : Om) (h : AH) (A : Nat × Nat × Nat × Nat) (f : Nat → Int32) (g : Nat → Int64) (L : List Rw) (Bb : Nat × Nat × Nat × Nat) (fb : Nat → Int32) (gb : Nat → Int64) (M : List Rw) (hR : RA0 o h A f g L) (hRb : RA0 o h Bb fb gb M) (hs : Srt L) (hsb : Srt M) : Mt l o yRW_differencesFrom cRW_differencesFrom 4 (some .int) ({ frames := 3, cells := 0, slots := 0, locals := 75 } : Room) [.ref A.1, .ref Bb.1] h (QI o (fun x h' => x = nI (diffs L M) ∧ h' = h)) (0) (0) := by
  refine Met.ofV (by decide) (Nat.le_of_ble_eq_true rfl) (fun K hl ho C => ?_)
  subst hl; subst ho
  obtain ⟨hA, hV, hW, hn, hcap, hE⟩ := id hR
  obtain ⟨hAb, hVb, hWb, hnb, hcapb, hEb⟩ := id hRb
  have loop2 : ∀ (m i : Nat), M.length - i = m → i ≤ M.length → V K h 0 0 (EndQ K (QI (Ko K) (fun x h' => x = nI (diffs L M) ∧ h' = h)) 0 0) 55 [(0, .ref A.1), (1, .ref Bb.1), (2, .int (nI ((L.filter (fun r => decide (wt M r.1 ≠ r.2))).length + ((M.take i).filter (fun r => decide (wt L r.1 = 0))).length))), (3, .int (nI i))] [] := by
    intro m
    induction m using Nat.strongRecOn with
    | _ m ih =>
      intro i hm hi
      generalize hdd : ((M.take i).filter (fun r => decide (wt L r.1 = 0))).length = dd
      refine r_iload_n (n := 56) C dRW_differencesFrom_55 rfl rfl ?_
      refine r_aload_n (n := 57) C dRW_differencesFrom_56 rfl rfl ?_
      refine r_get (ci := 0) (n := 60) C hinRW rfl 2 (by decide) tw_35 rfl dRW_differencesFrom_57 rfl (by assumption) rfl ?_
      refine r_icmp_ge (tgt := 99) (n := 63) C dRW_differencesFrom_60 (by decide) rfl (fun c_60 => ?_) (fun c_60 => ?_)
      · have hie : i = M.length := by have := (nI_leI (by omega) (by omega)).mp c_60; omega
        refine r_iload_n (n := 100) C dRW_differencesFrom_99 rfl rfl ?_
        exact r_iret C dRW_differencesFrom_100 (Nat.le_refl _) (Nat.le_refl _) ⟨by rw [hie, List.take_length] at hdd; rw [← hdd]; rfl, rfl⟩
      · have hlt : i < M.length := by
          rcases Nat.lt_or_ge i M.length with q | q
          · exact q
          · exact absurd (nI_le q (by omega)) c_60
        obtain ⟨r, hr⟩ : ∃ r, M[i]? = some r := ⟨_, List.getElem?_eq_getElem hlt⟩
        refine r_aload_n (n := 64) C dRW_differencesFrom_63 rfl rfl ?_
        refine r_aload_n (n := 65) C dRW_differencesFrom_64 rfl rfl ?_
        refine r_iload_n (n := 66) C dRW_differencesFrom_65 rfl rfl ?_
        refine r_iconst (v := 0) (n := 67) C dRW_differencesFrom_66 rfl (by decide) ?_
        refine r_ci (n := 70) (rn_V (z := 2) (ci := 0) (T := TRW) C (c_RW_valueAt (Kl K) (Ko K) h Bb fb gb M i 0 r hRb hr (by decide)) tw_156 tw_157 tw_158 tw_2 tw_159 rfl rfl ndRW_valueAt ⟨Nat.le_of_ble_eq_true rfl, Nat.le_of_ble_eq_true rfl⟩ (by assumption) rfl rfl rfl (Nat.le_of_ble_eq_true rfl) dRW_differencesFrom_67 ⟨Nat.le_of_ble_eq_true rfl, Nat.le_of_ble_eq_true rfl⟩) rfl (fun x h1 hq => ?_)
        obtain ⟨e1, e2⟩ := hq
        subst e1
        rw [e2]
        refine r_aload_n (n := 71) C dRW_differencesFrom_70 rfl rfl ?_
        refine r_iload_n (n := 72) C dRW_differencesFrom_71 rfl rfl ?_
        refine r_iconst (v := 1) (n := 73) C dRW_differencesFrom_72 rfl (by decide) ?_
        refine r_ci (n := 76) (rn_V (z := 2) (ci := 0) (T := TRW) C (c_RW_valueAt (Kl K) (Ko K) h Bb fb gb M i 1 r hRb hr (by decide)) tw_156 tw_157 tw_158 tw_2 tw_159 rfl rfl ndRW_valueAt ⟨Nat.le_of_ble_eq_true rfl, Nat.le_of_ble_eq_true rfl⟩ (by assumption) rfl rfl rfl (Nat.le_of_ble_eq_true rfl) dRW_differencesFrom_73 ⟨Nat.le_of_ble_eq_true rfl, Nat.le_of_ble_eq_true rfl⟩) rfl (fun x h1 hq => ?_)
        obtain ⟨e1, e2⟩ := hq
        subst e1
        rw [e2]
        refine r_aload_n (n := 77) C dRW_differencesFrom_76 rfl rfl ?_
        refine r_iload_n (n := 78) C dRW_differencesFrom_77 rfl rfl ?_
        refine r_iconst (v := 2) (n := 79) C dRW_differencesFrom_78 rfl (by decide) ?_
        refine r_ci (n := 82) (rn_V (z := 2) (ci := 0) (T := TRW) C (c_RW_valueAt (Kl K) (Ko K) h Bb fb gb M i 2 r hRb hr (by decide)) tw_156 tw_157 tw_158 tw_2 tw_159 rfl rfl ndRW_valueAt ⟨Nat.le_of_ble_eq_true rfl, Nat.le_of_ble_eq_true rfl⟩ (by assumption) rfl rfl rfl (Nat.le_of_ble_eq_true rfl) dRW_differencesFrom_79 ⟨Nat.le_of_ble_eq_true rfl, Nat.le_of_ble_eq_true rfl⟩) rfl (fun x h1 hq => ?_)
        obtain ⟨e1, e2⟩ := hq
        subst e1
        rw [e2]
        refine r_cl (n := 85) (rn_V (z := 3) (ci := 0) (T := TRW) C (c_RW_weightOf (Kl K) (Ko K) h A f g L r.1.1 r.1.2.1 r.1.2.2 hR hs) tw_473 tw_474 tw_475 tw_2 tw_476 rfl rfl ndRW_weightOf ⟨Nat.le_of_ble_eq_true rfl, Nat.le_of_ble_eq_true rfl⟩ (by assumption) rfl rfl rfl (Nat.le_of_ble_eq_true rfl) dRW_differencesFrom_82 ⟨Nat.le_of_ble_eq_true rfl, Nat.le_of_ble_eq_true rfl⟩) rfl (fun x h1 hq => ?_)
        obtain ⟨e1, e2⟩ := hq
        subst e1
        rw [e2]
        refine r_lconst (v := 0) (n := 86) C dRW_differencesFrom_85 rfl (by decide) ?_
        refine r_lcmp (n := 87) C dRW_differencesFrom_86 rfl ?_
        refine r_if_ne (tgt := 93) (n := 90) C dRW_differencesFrom_87 (by decide) rfl (fun c_87 => ?_) (fun c_87 => ?_)
        · have hz : ¬ wt L r.1 = 0 := fun e => c_87 ((lg_cmp_eq _ _).mpr e)
          refine r_iinc (n := 96) C dRW_differencesFrom_93 rfl rfl (nI_i i) (by decide) ?_
          refine r_goto (tgt := 55) C dRW_differencesFrom_96 (by decide) ?_
          refine V.byk (ls' := [(0, .ref A.1), (1, .ref Bb.1), (2, .int (nI ((L.filter (fun r => decide (wt M r.1 ≠ r.2))).length + dd))), (3, .int (nI (i + 1)))]) rfl ?_
          have h9 := ih _ (by omega) (i + 1) rfl (by omega)
          rw [ftake hr, hdd, if_neg (by simpa using hz), Nat.add_zero] at h9
          exact h9
        · have hz : wt L r.1 = 0 := (lg_cmp_eq _ _).mp c_87
          refine r_iinc (n := 93) C dRW_differencesFrom_90 rfl rfl (nI_i _) (by decide) ?_
          refine r_iinc (n := 96) C dRW_differencesFrom_93 rfl rfl (nI_i i) (by decide) ?_
          refine r_goto (tgt := 55) C dRW_differencesFrom_96 (by decide) ?_
          refine V.byk (ls' := [(0, .ref A.1), (1, .ref Bb.1), (2, .int (nI ((L.filter (fun r => decide (wt M r.1 ≠ r.2))).length + dd + 1))), (3, .int (nI (i + 1)))]) rfl ?_
          have h9 := ih _ (by omega) (i + 1) rfl (by omega)
          rw [ftake hr, hdd, if_pos (by simpa using hz), ← Nat.add_assoc] at h9
          exact h9
  have loop1 : ∀ (m i : Nat), L.length - i = m → i ≤ L.length → V K h 0 0 (EndQ K (QI (Ko K) (fun x h' => x = nI (diffs L M) ∧ h' = h)) 0 0) 4 [(0, .ref A.1), (1, .ref Bb.1), (2, .int (nI ((L.take i).filter (fun r => decide (wt M r.1 ≠ r.2))).length)), (3, .int (nI i))] [] := by
    intro m
    induction m using Nat.strongRecOn with
    | _ m ih =>
      intro i hm hi
      generalize hdd : ((L.take i).filter (fun r => decide (wt M r.1 ≠ r.2))).length = dd
      refine r_iload_n (n := 5) C dRW_differencesFrom_4 rfl rfl ?_
      refine r_aload_n (n := 6) C dRW_differencesFrom_5 rfl rfl ?_
      refine r_get (ci := 0) (n := 9) C hinRW rfl 2 (by decide) tw_35 rfl dRW_differencesFrom_6 rfl (by assumption) rfl ?_
      refine r_icmp_ge (tgt := 53) (n := 12) C dRW_differencesFrom_9 (by decide) rfl (fun c_9 => ?_) (fun c_9 => ?_)
      · have hie : i = L.length := by have := (nI_leI (by omega) (by omega)).mp c_9; omega
        refine r_iconst (v := 0) (n := 54) C dRW_differencesFrom_53 rfl (by decide) ?_
        refine r_istore_n (n := 55) C dRW_differencesFrom_54 rfl (by decide) ?_
        rw [hie, List.take_length] at hdd
        subst hdd
        refine V.byk (ls' := [(0, .ref A.1), (1, .ref Bb.1), (2, .int (nI (L.filter (fun r => decide (wt M r.1 ≠ r.2))).length)), (3, .int (nI 0))]) rfl ?_
        exact loop2 _ 0 rfl (Nat.zero_le _)
      · have hlt : i < L.length := by
          rcases Nat.lt_or_ge i L.length with q | q
          · exact q
          · exact absurd (nI_le q (by omega)) c_9
        obtain ⟨r, hr⟩ : ∃ r, L[i]? = some r := ⟨_, List.getElem?_eq_getElem hlt⟩
        refine r_aload_n (n := 13) C dRW_differencesFrom_12 rfl rfl ?_
        refine r_aload_n (n := 14) C dRW_differencesFrom_13 rfl rfl ?_
        refine r_iload_n (n := 15) C dRW_differencesFrom_14 rfl rfl ?_
        refine r_iconst (v := 0) (n := 16) C dRW_differencesFrom_15 rfl (by decide) ?_
        refine r_ci (n := 19) (rn_V (z := 2) (ci := 0) (T := TRW) C (c_RW_valueAt (Kl K) (Ko K) h A f g L i 0 r hR hr (by decide)) tw_156 tw_157 tw_158 tw_2 tw_159 rfl rfl ndRW_valueAt ⟨Nat.le_of_ble_eq_true rfl, Nat.le_of_ble_eq_true rfl⟩ (by assumption) rfl rfl rfl (Nat.le_of_ble_eq_true rfl) dRW_differencesFrom_16 ⟨Nat.le_of_ble_eq_true rfl, Nat.le_of_ble_eq_true rfl⟩) rfl (fun x h1 hq => ?_)
        obtain ⟨e1, e2⟩ := hq
        subst e1
        rw [e2]
        refine r_aload_n (n := 20) C dRW_differencesFrom_19 rfl rfl ?_
        refine r_iload_n (n := 21) C dRW_differencesFrom_20 rfl rfl ?_
        refine r_iconst (v := 1) (n := 22) C dRW_differencesFrom_21 rfl (by decide) ?_
        refine r_ci (n := 25) (rn_V (z := 2) (ci := 0) (T := TRW) C (c_RW_valueAt (Kl K) (Ko K) h A f g L i 1 r hR hr (by decide)) tw_156 tw_157 tw_158 tw_2 tw_159 rfl rfl ndRW_valueAt ⟨Nat.le_of_ble_eq_true rfl, Nat.le_of_ble_eq_true rfl⟩ (by assumption) rfl rfl rfl (Nat.le_of_ble_eq_true rfl) dRW_differencesFrom_22 ⟨Nat.le_of_ble_eq_true rfl, Nat.le_of_ble_eq_true rfl⟩) rfl (fun x h1 hq => ?_)
        obtain ⟨e1, e2⟩ := hq
        subst e1
        rw [e2]
        refine r_aload_n (n := 26) C dRW_differencesFrom_25 rfl rfl ?_
        refine r_iload_n (n := 27) C dRW_differencesFrom_26 rfl rfl ?_
        refine r_iconst (v := 2) (n := 28) C dRW_differencesFrom_27 rfl (by decide) ?_
        refine r_ci (n := 31) (rn_V (z := 2) (ci := 0) (T := TRW) C (c_RW_valueAt (Kl K) (Ko K) h A f g L i 2 r hR hr (by decide)) tw_156 tw_157 tw_158 tw_2 tw_159 rfl rfl ndRW_valueAt ⟨Nat.le_of_ble_eq_true rfl, Nat.le_of_ble_eq_true rfl⟩ (by assumption) rfl rfl rfl (Nat.le_of_ble_eq_true rfl) dRW_differencesFrom_28 ⟨Nat.le_of_ble_eq_true rfl, Nat.le_of_ble_eq_true rfl⟩) rfl (fun x h1 hq => ?_)
        obtain ⟨e1, e2⟩ := hq
        subst e1
        rw [e2]
        refine r_cl (n := 34) (rn_V (z := 3) (ci := 0) (T := TRW) C (c_RW_weightOf (Kl K) (Ko K) h Bb fb gb M r.1.1 r.1.2.1 r.1.2.2 hRb hsb) tw_473 tw_474 tw_475 tw_2 tw_476 rfl rfl ndRW_weightOf ⟨Nat.le_of_ble_eq_true rfl, Nat.le_of_ble_eq_true rfl⟩ (by assumption) rfl rfl rfl (Nat.le_of_ble_eq_true rfl) dRW_differencesFrom_31 ⟨Nat.le_of_ble_eq_true rfl, Nat.le_of_ble_eq_true rfl⟩) rfl (fun x h1 hq => ?_)
        obtain ⟨e1, e2⟩ := hq
        subst e1
        rw [e2]
        refine r_aload_n (n := 35) C dRW_differencesFrom_34 rfl rfl ?_
        refine r_get (ci := 0) (n := 38) C hinRW rfl 1 (by decide) tw_34 rfl dRW_differencesFrom_35 rfl (by assumption) rfl ?_
        refine r_iload_n (n := 39) C dRW_differencesFrom_38 rfl rfl ?_
        refine r_lald (n := 40) C dRW_differencesFrom_39 rfl hW i rfl (by omega) (by omega) ?_
        refine r_lcmp (n := 41) C dRW_differencesFrom_40 rfl ?_
        refine r_if_eq (tgt := 47) (n := 44) C dRW_differencesFrom_41 (by decide) rfl (fun c_41 => ?_) (fun c_41 => ?_)
        · have hz : wt M r.1 = r.2 := by have := (lg_cmp_eq _ _).mp c_41; rw [(hE i r hr).2.2.2] at this; exact this
          refine r_iinc (n := 50) C dRW_differencesFrom_47 rfl rfl (nI_i i) (by decide) ?_
          refine r_goto (tgt := 4) C dRW_differencesFrom_50 (by decide) ?_
          refine V.byk (ls' := [(0, .ref A.1), (1, .ref Bb.1), (2, .int (nI dd)), (3, .int (nI (i + 1)))]) rfl ?_
          have h9 := ih _ (by omega) (i + 1) rfl (by omega)
          rw [ftake hr, hdd, if_neg (by simpa using hz), Nat.add_zero] at h9
          exact h9
        · have hz : ¬ wt M r.1 = r.2 := by rw [← (hE i r hr).2.2.2]; exact fun e => c_41 ((lg_cmp_eq _ _).mpr e)
          refine r_iinc (n := 47) C dRW_differencesFrom_44 rfl rfl (nI_i _) (by decide) ?_
          refine r_iinc (n := 50) C dRW_differencesFrom_47 rfl rfl (nI_i i) (by decide) ?_
          refine r_goto (tgt := 4) C dRW_differencesFrom_50 (by decide) ?_
          refine V.byk (ls' := [(0, .ref A.1), (1, .ref Bb.1), (2, .int (nI (dd + 1))), (3, .int (nI (i + 1)))]) rfl ?_
          have h9 := ih _ (by omega) (i + 1) rfl (by omega)
          rw [ftake hr, hdd, if_pos (by simpa using hz)] at h9
          exact h9
  refine r_iconst (v := 0) (n := 1) C dRW_differencesFrom_0 rfl (by decide) ?_
  refine r_istore_n (n := 2) C dRW_differencesFrom_1 rfl (by decide) ?_
  refine r_iconst (v := 0) (n := 3) C dRW_differencesFrom_2 rfl (by decide) ?_
  refine r_istore_n (n := 4) C dRW_differencesFrom_3 rfl (by decide) ?_
  refine V.byk (ls' := [(0, .ref A.1), (1, .ref Bb.1), (2, .int (nI 0)), (3, .int (nI 0))]) rfl ?_
  exact loop1 _ 0 rfl (Nat.zero_le _)
set_option maxHeartbeats 4000000 in
set_option maxRecDepth 100000 in
/-- Rows(cap) -/
theorem c_RW_init (l : Launch) (o : Om) (h : AH) (a cap : Nat) (ha : h a = some (.inr (0, [.null, .null, .int 0]))) (hcap : cap ≤ 576) : Mt l o yRW_init cRW_init 2 none ({ frames := 1, cells := 2, slots := cap * 4, locals := 24 } : Room) [.ref a, .int (nI cap)] h (QV o (fun h' => ∃ v w, h v = none ∧ h w = none ∧ v ≠ w ∧ RA o h' (a, v, w, cap) [] ∧ Off (a, v, w, cap) h h')) (2) (cap * 4) := by
  refine Met.ofV (by decide) (Nat.le_of_ble_eq_true rfl) (fun K hl ho C => ?_)
  subst hl; subst ho
  refine r_aload_n (n := 1) C dRW_init_0 rfl rfl ?_
  refine r_objInit (n := 4) C tw_32 tw_21 tw_22 dRW_init_1 rfl (Nat.le_of_ble_eq_true rfl) (Nat.le_of_ble_eq_true rfl) ?_
  refine r_aload_n (n := 5) C dRW_init_4 rfl rfl ?_
  refine r_iload_n (n := 6) C dRW_init_5 rfl rfl ?_
  refine r_iconst (v := 3) (n := 7) C dRW_init_6 rfl (by decide) ?_
  refine r_imul (n := 8) C dRW_init_7 rfl ?_
  refine r_newi (n := 10) C tw_43 dRW_init_8 rfl (ix0 cap) (by show _ * 4 ≤ _; omega) (by omega) (Nat.le_of_ble_eq_true rfl) (by show 0 + cap * 3 ≤ cap * 4; omega) (fun v hv0 => ?_)
  have nv : v ≠ a := fun e => by rw [e, ha] at hv0; cases hv0
  have ha1 := (hu_ne h (.inl ((Ko K).2.1 0, cap * 3, .inl (fun _ => 0))) (Ne.symm nv)).trans ha
  generalize eh1 : hu h v _ = h1 at ha1
  have hv1 := (congrFun eh1.symm v).trans (hu_eq _ _ _)
  refine r_putF (ci := 0) (n := 13) C hinRW tyRW okRW nmRW rfl 0 (by decide) tw_33 rfl rfl rfl rfl (okRW 0 (by decide)) rfl rfl dRW_init_10 rfl ha1 (Nat.le_of_ble_eq_true rfl) ?_
  generalize eh2 : hu h1 a _ = h2
  have ha2 := (congrFun eh2.symm a).trans (hu_eq _ _ _)
  have hv2 := ((congrFun eh2.symm v).trans (hu_ne _ _ nv)).trans hv1
  refine r_aload_n (n := 14) C dRW_init_13 rfl rfl ?_
  refine r_iload_n (n := 15) C dRW_init_14 rfl rfl ?_
  refine r_newl (n := 17) C tw_44 dRW_init_15 rfl rfl (by show _ * 8 ≤ _; omega) (by omega) (Nat.le_of_ble_eq_true rfl) (by show 0 + cap * 3 + cap ≤ cap * 4; omega) (fun w hw0 => ?_)
  have nwa : w ≠ a := fun e => by rw [e, ha2] at hw0; cases hw0
  have nwv : w ≠ v := fun e => by rw [e, hv2] at hw0; cases hw0
  have hw00 : h w = none := by rw [← eh2, hu_ne _ _ nwa, ← eh1, hu_ne _ _ nwv] at hw0; exact hw0
  generalize eh3 : hu h2 w _ = h3
  have ha3 := ((congrFun eh3.symm a).trans (hu_ne _ _ (Ne.symm nwa))).trans ha2
  have hv3 := ((congrFun eh3.symm v).trans (hu_ne _ _ (Ne.symm nwv))).trans hv2
  have hw3 := (congrFun eh3.symm w).trans (hu_eq _ _ _)
  refine r_putF (ci := 0) (n := 20) C hinRW tyRW okRW nmRW rfl 1 (by decide) tw_34 rfl rfl rfl rfl (okRW 1 (by decide)) rfl rfl dRW_init_17 rfl ha3 (Nat.le_of_ble_eq_true rfl) ?_
  generalize eh4 : hu h3 a _ = h4
  have ha4 := (congrFun eh4.symm a).trans (hu_eq _ _ _)
  have hv4 := ((congrFun eh4.symm v).trans (hu_ne _ _ nv)).trans hv3
  have hw4 := ((congrFun eh4.symm w).trans (hu_ne _ _ nwa)).trans hw3
  refine r_aload_n (n := 21) C dRW_init_20 rfl rfl ?_
  refine r_iconst (v := 0) (n := 22) C dRW_init_21 rfl (by decide) ?_
  refine r_put (ci := 0) (n := 25) C hinRW tyRW okRW nmRW rfl 2 (by decide) tw_35 rfl rfl (okRW 2 (by decide)) rfl rfl dRW_init_22 rfl ha4 (Nat.le_of_ble_eq_true rfl) ?_
  generalize eh5 : hu h4 a _ = h5
  have ha5 := (congrFun eh5.symm a).trans (hu_eq _ _ _)
  have hv5 := ((congrFun eh5.symm v).trans (hu_ne _ _ nv)).trans hv4
  have hw5 := ((congrFun eh5.symm w).trans (hu_ne _ _ nwa)).trans hw4
  exact r_vret C dRW_init_25 (Nat.le_refl _) (by show 0 + cap * 3 + cap ≤ cap * 4; omega) ⟨v, w, hv0, hw00, Ne.symm nwv, ⟨_, _, ha5, hv5, hw5, Nat.zero_le _, hcap, Enc_nil _ _⟩, fun q q1 q2 q3 => by rw [← eh5, hu_ne _ _ q1, ← eh4, hu_ne _ _ q1, ← eh3, hu_ne _ _ q3, ← eh2, hu_ne _ _ q1, ← eh1, hu_ne _ _ q2]⟩
end
section
/-! PENDING: the list of changes (a table, a row, a number) -/
abbrev Pn : Type := Int32 × Ky × Int32
def PEnc (ft fv fb : Nat → Int32) (pl : List Pn) : Prop := ∀ (i : Nat) (e : Pn), pl[i]? = some e → ft i = e.1 ∧ fv (i * 3) = e.2.1.1 ∧ fv (i * 3 + 1) = e.2.1.2.1 ∧ fv (i * 3 + 2) = e.2.1.2.2 ∧ fb i = e.2.2
def PA0 (o : Om) (h : AH) (P : Nat × Nat × Nat × Nat) (ft fv fb : Nat → Int32) (pl : List Pn) : Prop := h P.1 = some (.inr (1, [.ref P.2.1, .ref P.2.2.1, .ref P.2.2.2, .int (nI pl.length)])) ∧ h P.2.1 = some (.inl (o.2.1 0, 12, .inl ft)) ∧ h P.2.2.1 = some (.inl (o.2.1 0, 36, .inl fv)) ∧ h P.2.2.2 = some (.inl (o.2.1 0, 12, .inl fb)) ∧ pl.length ≤ 12 ∧ PEnc ft fv fb pl ∧ P.2.1 ≠ P.2.2.1 ∧ P.2.1 ≠ P.2.2.2 ∧ P.2.2.1 ≠ P.2.2.2
def PA (o : Om) (h : AH) (P : Nat × Nat × Nat × Nat) (pl : List Pn) : Prop := ∃ ft fv fb, PA0 o h P ft fv fb pl
def POff (P : Nat × Nat × Nat × Nat) (h h' : AH) : Prop := ∀ q : Nat, q ≠ P.1 → q ≠ P.2.1 → q ≠ P.2.2.1 → q ≠ P.2.2.2 → h' q = h q
/-- none of its arrays is the ints of A -/
def PD (P A : Nat × Nat × Nat × Nat) : Prop := P.2.1 ≠ A.2.1 ∧ P.2.2.1 ≠ A.2.1 ∧ P.2.2.2 ≠ A.2.1
theorem PA0.keep {o : Om} {h h' : AH} {P A : Nat × Nat × Nat × Nat} {ft fv fb : Nat → Int32} {pl : List Pn} {f : Nat → Int32} {g : Nat → Int64} {L : List Rw} (hA : RA0 o h A f g L) (hP : PA0 o h P ft fv fb pl) (d : PD P A) (off : Off A h h') : PA0 o h' P ft fv fb pl := by
  obtain ⟨a1, a2, a3, -, -, -⟩ := hA
  obtain ⟨b1, b2, b3, b4, b5, b6, b7⟩ := hP
  refine ⟨(off _ (fun e => ?_) (fun e => ?_) (fun e => ?_)).trans b1, (off _ (fun e => ?_) d.1 (fun e => ?_)).trans b2, (off _ (fun e => ?_) d.2.1 (fun e => ?_)).trans b3, (off _ (fun e => ?_) d.2.2 (fun e => ?_)).trans b4, b5, b6, b7⟩
  · rw [e, a1] at b1; simp at b1
  · rw [e, a2] at b1; simp at b1
  · rw [e, a3] at b1; simp at b1
  · rw [e, a1] at b2; simp at b2
  · rw [e, a3] at b2; simp at b2
  · rw [e, a1] at b3; simp at b3
  · rw [e, a3] at b3; simp at b3
  · rw [e, a1] at b4; simp at b4
  · rw [e, a3] at b4; simp at b4
theorem RA0.keepP {o : Om} {h h' : AH} {P A : Nat × Nat × Nat × Nat} {ft fv fb : Nat → Int32} {pl : List Pn} {f : Nat → Int32} {g : Nat → Int64} {L : List Rw} (hA : RA0 o h A f g L) (hP : PA0 o h P ft fv fb pl) (d : PD P A) (off : POff P h h') : RA0 o h' A f g L := by
  obtain ⟨a1, a2, a3, a4, a5, a6⟩ := hA
  obtain ⟨b1, b2, b3, b4, -, -, -⟩ := hP
  refine ⟨(off _ (fun e => ?_) (fun e => ?_) (fun e => ?_) (fun e => ?_)).trans a1, (off _ (fun e => ?_) d.1.symm d.2.1.symm d.2.2.symm).trans a2, (off _ (fun e => ?_) (fun e => ?_) (fun e => ?_) (fun e => ?_)).trans a3, a4, a5, a6⟩
  · rw [e, b1] at a1; simp at a1
  · rw [e, b2] at a1; simp at a1
  · rw [e, b3] at a1; simp at a1
  · rw [e, b4] at a1; simp at a1
  · rw [e, b1] at a2; simp at a2
  · rw [e, b1] at a3; simp at a3
  · rw [e, b2] at a3; simp at a3
  · rw [e, b3] at a3; simp at a3
  · rw [e, b4] at a3; simp at a3
def addP (t : Int32) (L : List Rw) (pl : List Pn) : List Rw := pl.foldl (fun L e => if e.1 = t then addW L e.2.1 e.2.2.toInt64 else L) L
theorem addP_take {t : Int32} {L : List Rw} {pl : List Pn} {i : Nat} {e : Pn} (h : pl[i]? = some e) : addP t L (pl.take (i + 1)) = if e.1 = t then addW (addP t L (pl.take i)) e.2.1 e.2.2.toInt64 else addP t L (pl.take i) := by
  unfold addP
  rw [List.take_succ, h]
  simp [List.foldl_append]
theorem addP_srt {t : Int32} {L : List Rw} (pl : List Pn) (h : Srt L) : Srt (addP t L pl) := by
  induction pl generalizing L with
  | nil => exact h
  | cons e pl ih =>
    show Srt (addP t (if e.1 = t then addW L e.2.1 e.2.2.toInt64 else L) pl)
    apply ih
    split
    · exact addW_srt _ _ h
    · exact h
theorem addP_len {t : Int32} {L : List Rw} (pl : List Pn) : (addP t L pl).length ≤ L.length + pl.length := by
  induction pl generalizing L with
  | nil => exact Nat.le_refl _
  | cons e pl ih =>
    show (addP t (if e.1 = t then addW L e.2.1 e.2.2.toInt64 else L) pl).length ≤ _
    have := ih (L := if e.1 = t then addW L e.2.1 e.2.2.toInt64 else L)
    have h2 : (if e.1 = t then addW L e.2.1 e.2.2.toInt64 else L).length ≤ L.length + 1 := by
      split
      · exact addW_len _ _
      · omega
    simp only [List.length_cons]
    omega
theorem PEnc_snoc {ft fv fb ft' fv' fb' : Nat → Int32} {pl : List Pn} {e : Pn} (h : PEnc ft fv fb pl) (h1 : ∀ j, j < pl.length → ft' j = ft j) (h2 : ∀ j, j < pl.length * 3 → fv' j = fv j) (h3 : ∀ j, j < pl.length → fb' j = fb j) (he : ft' pl.length = e.1 ∧ fv' (pl.length * 3) = e.2.1.1 ∧ fv' (pl.length * 3 + 1) = e.2.1.2.1 ∧ fv' (pl.length * 3 + 2) = e.2.1.2.2 ∧ fb' pl.length = e.2.2) : PEnc ft' fv' fb' (pl ++ [e]) := by
  intro i q hq
  by_cases hi : i < pl.length
  · rw [List.getElem?_append_left hi] at hq
    obtain ⟨e1, e2, e3, e4, e5⟩ := h i q hq
    exact ⟨by rw [h1 _ hi]; exact e1, by rw [h2 _ (by omega)]; exact e2, by rw [h2 _ (by omega)]; exact e3, by rw [h2 _ (by omega)]; exact e4, by rw [h3 _ hi]; exact e5⟩
  · rw [List.getElem?_append_right (by omega)] at hq
    have hz := (List.getElem?_eq_some_iff.mp hq).1
    have e : i = pl.length := by simp at hz; omega
    subst e
    rw [Nat.sub_self] at hq
    cases hq
    exact he
theorem PA0.ne {o : Om} {h : AH} {P : Nat × Nat × Nat × Nat} {ft fv fb : Nat → Int32} {pl : List Pn} (hP : PA0 o h P ft fv fb pl) : P.1 ≠ P.2.1 ∧ P.1 ≠ P.2.2.1 ∧ P.1 ≠ P.2.2.2 := by
  obtain ⟨b1, b2, b3, b4, -, -, -⟩ := hP
  refine ⟨fun e => ?_, fun e => ?_, fun e => ?_⟩
  · rw [e, b2] at b1; simp at b1
  · rw [e, b3] at b1; simp at b1
  · rw [e, b4] at b1; simp at b1
theorem POff.rf {P : Nat × Nat × Nat × Nat} {h : AH} : POff P h h := fun _ _ _ _ _ => rfl
theorem POff.p1 {P : Nat × Nat × Nat × Nat} {h h1 : AH} (a : POff P h h1) (x : va_E) : POff P h (hu h1 P.1 x) := fun q q1 q2 q3 q4 => (hu_ne _ _ q1).trans (a q q1 q2 q3 q4)
theorem POff.p2 {P : Nat × Nat × Nat × Nat} {h h1 : AH} (a : POff P h h1) (x : va_E) : POff P h (hu h1 P.2.1 x) := fun q q1 q2 q3 q4 => (hu_ne _ _ q2).trans (a q q1 q2 q3 q4)
theorem POff.p3 {P : Nat × Nat × Nat × Nat} {h h1 : AH} (a : POff P h h1) (x : va_E) : POff P h (hu h1 P.2.2.1 x) := fun q q1 q2 q3 q4 => (hu_ne _ _ q3).trans (a q q1 q2 q3 q4)
theorem POff.p4 {P : Nat × Nat × Nat × Nat} {h h1 : AH} (a : POff P h h1) (x : va_E) : POff P h (hu h1 P.2.2.2 x) := fun q q1 q2 q3 q4 => (hu_ne _ _ q4).trans (a q q1 q2 q3 q4)
set_option maxHeartbeats 4000000 in
set_option maxRecDepth 100000 in
/-- Pending.size -/
theorem c_PD_size (l : Launch) (o : Om) (h : AH) (P : Nat × Nat × Nat × Nat) (ft fv fb : Nat → Int32) (pl : List Pn) (hR : PA0 o h P ft fv fb pl) : Mt l o yPD_size cPD_size 1 (some .int) ({ frames := 0, cells := 0, slots := 0, locals := 0 } : Room) [.ref P.1] h (QI o (fun r h' => r = nI pl.length ∧ h' = h)) (0) (0) := by
  refine Met.ofV (by decide) (Nat.le_of_ble_eq_true rfl) (fun K hl ho C => ?_)
  subst hl; subst ho
  obtain ⟨hp1, hp2, hp3, hp4, hn, hE, m23, m24, m34⟩ := id hR
  obtain ⟨m12, m13, m14⟩ := hR.ne
  refine r_aload_n (n := 1) C dPD_size_0 rfl rfl ?_
  refine r_get (ci := 1) (n := 4) C hinPD rfl 3 (by decide) tw_54 rfl dPD_size_1 rfl (by assumption) rfl ?_
  exact r_iret C dPD_size_4 (Nat.le_refl _) (Nat.le_refl _) ⟨rfl, rfl⟩
set_option maxHeartbeats 4000000 in
set_option maxRecDepth 100000 in
/-- Pending.clear -/
theorem c_PD_clear (l : Launch) (o : Om) (h : AH) (P : Nat × Nat × Nat × Nat) (ft fv fb : Nat → Int32) (pl : List Pn) (hR : PA0 o h P ft fv fb pl) : Mt l o yPD_clear cPD_clear 1 none ({ frames := 0, cells := 0, slots := 0, locals := 0 } : Room) [.ref P.1] h (QV o (fun h' => PA o h' P [] ∧ POff P h h')) (0) (0) := by
  refine Met.ofV (by decide) (Nat.le_of_ble_eq_true rfl) (fun K hl ho C => ?_)
  subst hl; subst ho
  obtain ⟨hp1, hp2, hp3, hp4, hn, hE, m23, m24, m34⟩ := id hR
  obtain ⟨m12, m13, m14⟩ := hR.ne
  refine r_aload_n (n := 1) C dPD_clear_0 rfl rfl ?_
  refine r_iconst (v := 0) (n := 2) C dPD_clear_1 rfl (by decide) ?_
  refine r_put (ci := 1) (n := 5) C hinPD tyPD okPD nmPD rfl 3 (by decide) tw_54 rfl rfl (okPD 3 (by decide)) rfl rfl dPD_clear_2 rfl (by assumption) (Nat.le_of_ble_eq_true rfl) ?_
  generalize eh1 : hu h P.1 _ = h1
  have hp1_1 := (congrFun eh1.symm P.1).trans (hu_eq _ _ _)
  have hp2_1 := ((congrFun eh1.symm P.2.1).trans (hu_ne _ _ (Ne.symm m12))).trans hp2
  have hp3_1 := ((congrFun eh1.symm P.2.2.1).trans (hu_ne _ _ (Ne.symm m13))).trans hp3
  have hp4_1 := ((congrFun eh1.symm P.2.2.2).trans (hu_ne _ _ (Ne.symm m14))).trans hp4
  have hO1 : POff P h h1 := eh1 ▸ POff.p1 POff.rf _
  exact r_vret C dPD_clear_5 (Nat.le_refl _) (Nat.le_refl _) ⟨⟨ft, fv, fb, hp1_1, hp2_1, hp3_1, hp4_1, Nat.zero_le _, (fun i e h0 => by simp at h0), m23, m24, m34⟩, hO1⟩
set_option maxHeartbeats 4000000 in
set_option maxRecDepth 100000 in
/-- Pending.append -/
theorem c_PD_append (l : Launch) (o : Om) (h : AH) (P : Nat × Nat × Nat × Nat) (ft fv fb : Nat → Int32) (pl : List Pn) (t a b c y : Int32) (hR : PA0 o h P ft fv fb pl) (hroom : pl.length < 12) : Mt l o yPD_append cPD_append 7 none ({ frames := 0, cells := 0, slots := 0, locals := 0 } : Room) [.ref P.1, .int t, .int a, .int b, .int c, .int y] h (QV o (fun h' => PA o h' P (pl ++ [(t, (a, b, c), y)]) ∧ POff P h h')) (0) (0) := by
  refine Met.ofV (by decide) (Nat.le_of_ble_eq_true rfl) (fun K hl ho C => ?_)
  subst hl; subst ho
  obtain ⟨hp1, hp2, hp3, hp4, hn, hE, m23, m24, m34⟩ := id hR
  obtain ⟨m12, m13, m14⟩ := hR.ne
  refine r_aload_n (n := 1) C dPD_append_0 rfl rfl ?_
  refine r_get (ci := 1) (n := 4) C hinPD rfl 3 (by decide) tw_54 rfl dPD_append_1 rfl (by assumption) rfl ?_
  refine r_bipush (v := 12) (n := 6) C dPD_append_4 rfl (by decide) ?_
  refine r_icmp_lt (tgt := 10) (n := 9) C dPD_append_6 (by decide) rfl (fun c_6 => ?_) (fun c_6 => ?_)
  · refine r_aload_n (n := 11) C dPD_append_10 rfl rfl ?_
    refine r_get (ci := 1) (n := 14) C hinPD rfl 3 (by decide) tw_54 rfl dPD_append_11 rfl (by assumption) rfl ?_
    refine r_iconst (v := 3) (n := 15) C dPD_append_14 rfl (by decide) ?_
    refine r_imul (n := 16) C dPD_append_15 rfl ?_
    refine r_istore (n := 18) C dPD_append_16 rfl (by decide) ?_
    refine r_aload_n (n := 19) C dPD_append_18 rfl rfl ?_
    refine r_get (ci := 1) (n := 22) C hinPD rfl 0 (by decide) tw_51 rfl dPD_append_19 rfl (by assumption) rfl ?_
    refine r_aload_n (n := 23) C dPD_append_22 rfl rfl ?_
    refine r_get (ci := 1) (n := 26) C hinPD rfl 3 (by decide) tw_54 rfl dPD_append_23 rfl (by assumption) rfl ?_
    refine r_iload_n (n := 27) C dPD_append_26 rfl rfl ?_
    refine r_iast (n := 28) C dPD_append_27 rfl hp2 pl.length rfl (by omega) (by omega) ?_
    generalize eh1 : hu h P.2.1 _ = h1
    have hp1_1 := ((congrFun eh1.symm P.1).trans (hu_ne _ _ m12)).trans hp1
    have hp2_1 := (congrFun eh1.symm P.2.1).trans (hu_eq _ _ _)
    have hp3_1 := ((congrFun eh1.symm P.2.2.1).trans (hu_ne _ _ (Ne.symm m23))).trans hp3
    have hp4_1 := ((congrFun eh1.symm P.2.2.2).trans (hu_ne _ _ (Ne.symm m24))).trans hp4
    have hO1 : POff P h h1 := eh1 ▸ POff.p2 POff.rf _
    refine r_aload_n (n := 29) C dPD_append_28 rfl rfl ?_
    refine r_get (ci := 1) (n := 32) C hinPD rfl 1 (by decide) tw_52 rfl dPD_append_29 rfl (by assumption) rfl ?_
    refine r_iload (n := 34) C dPD_append_32 rfl rfl ?_
    refine r_iload_n (n := 35) C dPD_append_34 rfl rfl ?_
    refine r_iast (n := 36) C dPD_append_35 rfl hp3_1 (pl.length * 3) (ix0 _) (by omega) (by omega) ?_
    generalize eh2 : hu h1 P.2.2.1 _ = h2
    have hp1_2 := ((congrFun eh2.symm P.1).trans (hu_ne _ _ m13)).trans hp1_1
    have hp2_2 := ((congrFun eh2.symm P.2.1).trans (hu_ne _ _ m23)).trans hp2_1
    have hp3_2 := (congrFun eh2.symm P.2.2.1).trans (hu_eq _ _ _)
    have hp4_2 := ((congrFun eh2.symm P.2.2.2).trans (hu_ne _ _ (Ne.symm m34))).trans hp4_1
    have hO2 : POff P h h2 := eh2 ▸ POff.p3 hO1 _
    refine r_aload_n (n := 37) C dPD_append_36 rfl rfl ?_
    refine r_get (ci := 1) (n := 40) C hinPD rfl 1 (by decide) tw_52 rfl dPD_append_37 rfl (by assumption) rfl ?_
    refine r_iload (n := 42) C dPD_append_40 rfl rfl ?_
    refine r_iconst (v := 1) (n := 43) C dPD_append_42 rfl (by decide) ?_
    refine r_iadd (n := 44) C dPD_append_43 rfl ?_
    refine r_iload_n (n := 45) C dPD_append_44 rfl rfl ?_
    refine r_iast (n := 46) C dPD_append_45 rfl hp3_2 (pl.length * 3 + 1) (ix1 _) (by omega) (by omega) ?_
    generalize eh3 : hu h2 P.2.2.1 _ = h3
    have hp1_3 := ((congrFun eh3.symm P.1).trans (hu_ne _ _ m13)).trans hp1_2
    have hp2_3 := ((congrFun eh3.symm P.2.1).trans (hu_ne _ _ m23)).trans hp2_2
    have hp3_3 := (congrFun eh3.symm P.2.2.1).trans (hu_eq _ _ _)
    have hp4_3 := ((congrFun eh3.symm P.2.2.2).trans (hu_ne _ _ (Ne.symm m34))).trans hp4_2
    have hO3 : POff P h h3 := eh3 ▸ POff.p3 hO2 _
    refine r_aload_n (n := 47) C dPD_append_46 rfl rfl ?_
    refine r_get (ci := 1) (n := 50) C hinPD rfl 1 (by decide) tw_52 rfl dPD_append_47 rfl (by assumption) rfl ?_
    refine r_iload (n := 52) C dPD_append_50 rfl rfl ?_
    refine r_iconst (v := 2) (n := 53) C dPD_append_52 rfl (by decide) ?_
    refine r_iadd (n := 54) C dPD_append_53 rfl ?_
    refine r_iload (n := 56) C dPD_append_54 rfl rfl ?_
    refine r_iast (n := 57) C dPD_append_56 rfl hp3_3 (pl.length * 3 + 2) (ix2 _) (by omega) (by omega) ?_
    generalize eh4 : hu h3 P.2.2.1 _ = h4
    have hp1_4 := ((congrFun eh4.symm P.1).trans (hu_ne _ _ m13)).trans hp1_3
    have hp2_4 := ((congrFun eh4.symm P.2.1).trans (hu_ne _ _ m23)).trans hp2_3
    have hp3_4 := (congrFun eh4.symm P.2.2.1).trans (hu_eq _ _ _)
    have hp4_4 := ((congrFun eh4.symm P.2.2.2).trans (hu_ne _ _ (Ne.symm m34))).trans hp4_3
    have hO4 : POff P h h4 := eh4 ▸ POff.p3 hO3 _
    refine r_aload_n (n := 58) C dPD_append_57 rfl rfl ?_
    refine r_get (ci := 1) (n := 61) C hinPD rfl 2 (by decide) tw_53 rfl dPD_append_58 rfl (by assumption) rfl ?_
    refine r_aload_n (n := 62) C dPD_append_61 rfl rfl ?_
    refine r_get (ci := 1) (n := 65) C hinPD rfl 3 (by decide) tw_54 rfl dPD_append_62 rfl (by assumption) rfl ?_
    refine r_iload (n := 67) C dPD_append_65 rfl rfl ?_
    refine r_iast (n := 68) C dPD_append_67 rfl hp4_4 pl.length rfl (by omega) (by omega) ?_
    generalize eh5 : hu h4 P.2.2.2 _ = h5
    have hp1_5 := ((congrFun eh5.symm P.1).trans (hu_ne _ _ m14)).trans hp1_4
    have hp2_5 := ((congrFun eh5.symm P.2.1).trans (hu_ne _ _ m24)).trans hp2_4
    have hp3_5 := ((congrFun eh5.symm P.2.2.1).trans (hu_ne _ _ m34)).trans hp3_4
    have hp4_5 := (congrFun eh5.symm P.2.2.2).trans (hu_eq _ _ _)
    have hO5 : POff P h h5 := eh5 ▸ POff.p4 hO4 _
    refine r_aload_n (n := 69) C dPD_append_68 rfl rfl ?_
    refine r_dup (n := 70) C dPD_append_69 rfl rfl ?_
    refine r_get (ci := 1) (n := 73) C hinPD rfl 3 (by decide) tw_54 rfl dPD_append_70 rfl (by assumption) rfl ?_
    refine r_iconst (v := 1) (n := 74) C dPD_append_73 rfl (by decide) ?_
    refine r_iadd (n := 75) C dPD_append_74 rfl ?_
    refine V.eqi (nI_1 _) ?_
    refine r_put (ci := 1) (n := 78) C hinPD tyPD okPD nmPD rfl 3 (by decide) tw_54 rfl rfl (okPD 3 (by decide)) rfl rfl dPD_append_75 rfl hp1_5 (Nat.le_of_ble_eq_true rfl) ?_
    generalize eh6 : hu h5 P.1 _ = h6
    have hp1_6 := (congrFun eh6.symm P.1).trans (hu_eq _ _ _)
    have hp2_6 := ((congrFun eh6.symm P.2.1).trans (hu_ne _ _ (Ne.symm m12))).trans hp2_5
    have hp3_6 := ((congrFun eh6.symm P.2.2.1).trans (hu_ne _ _ (Ne.symm m13))).trans hp3_5
    have hp4_6 := ((congrFun eh6.symm P.2.2.2).trans (hu_ne _ _ (Ne.symm m14))).trans hp4_5
    have hO6 : POff P h h6 := eh6 ▸ POff.p1 hO5 _
    exact r_vret C dPD_append_78 (Nat.le_refl _) (Nat.le_refl _) ⟨⟨_, _, _, hp1_6.trans (by rw [List.length_append]; rfl), hp2_6, hp3_6, hp4_6, by rw [List.length_append]; exact hroom, PEnc_snoc hE (fun j hj => pk_un (by omega)) (fun j hj => by rw [pk_un (by omega), pk_un (by omega), pk_un (by omega)]) (fun j hj => pk_un (by omega)) ⟨pk_us, by rw [pk_un (by omega), pk_un (by omega), pk_us], by rw [pk_un (by omega), pk_us], pk_us, pk_us⟩, m23, m24, m34⟩, hO6⟩
  · exact absurd (nI_lt hroom (by omega)) c_6
set_option maxHeartbeats 4000000 in
set_option maxRecDepth 100000 in
/-- Pending.addTo -/
theorem c_PD_addTo (l : Launch) (o : Om) (h : AH) (P : Nat × Nat × Nat × Nat) (ft fv fb : Nat → Int32) (pl : List Pn) (A : Nat × Nat × Nat × Nat) (f : Nat → Int32) (g : Nat → Int64) (L : List Rw) (t : Int32) (hR : PA0 o h P ft fv fb pl) (hRA : RA0 o h A f g L) (pd : PD P A) (hs : Srt L) (hroom : L.length + pl.length ≤ A.2.2.2) : Mt l o yPD_addTo cPD_addTo 5 none ({ frames := 3, cells := 0, slots := 0, locals := 101 } : Room) [.ref P.1, .ref A.1, .int t] h (QV o (fun h' => ∃ f' g', RA0 o h' A f' g' (addP t L pl) ∧ Off A h h')) (0) (0) := by
  refine Met.ofV (by decide) (Nat.le_of_ble_eq_true rfl) (fun K hl ho C => ?_)
  subst hl; subst ho
  obtain ⟨hp1, hp2, hp3, hp4, hn, hE, m23, m24, m34⟩ := id hR
  obtain ⟨m12, m13, m14⟩ := hR.ne
  have loop : ∀ (m i : Nat) (h1 : AH) (f1 : Nat → Int32) (g1 : Nat → Int64), pl.length - i = m → i ≤ pl.length → RA0 (Ko K) h1 A f1 g1 (addP t L (pl.take i)) → Off A h h1 → V K h1 0 0 (EndQ K (QV (Ko K) (fun h' => ∃ f' g', RA0 (Ko K) h' A f' g' (addP t L pl) ∧ Off A h h')) 0 0) 2 [(0, .ref P.1), (1, .ref A.1), (2, .int t), (3, .int (nI i))] [] := by
    intro m
    induction m using Nat.strongRecOn with
    | _ m ih =>
      intro i h1 f1 g1 hm hi hR1 hO1
      obtain ⟨hq1, hq2, hq3, hq4, -, -, -, -, -⟩ := PA0.keep hRA hR pd hO1
      have hbA : h1 A.1 = _ := hR1.1
      refine r_iload_n (n := 3) C dPD_addTo_2 rfl rfl ?_
      refine r_aload_n (n := 4) C dPD_addTo_3 rfl rfl ?_
      refine r_get (ci := 1) (n := 7) C hinPD rfl 3 (by decide) tw_54 rfl dPD_addTo_4 rfl (by assumption) rfl ?_
      refine r_icmp_ge (tgt := 67) (n := 10) C dPD_addTo_7 (by decide) rfl (fun c_7 => ?_) (fun c_7 => ?_)
      · have hie : i = pl.length := by have := (nI_leI (by omega) (by omega)).mp c_7; omega
        exact r_vret C dPD_addTo_67 (Nat.le_refl _) (Nat.le_refl _) ⟨f1, g1, by rw [hie, List.take_length] at hR1; exact hR1, hO1⟩
      · have hlt : i < pl.length := by
          rcases Nat.lt_or_ge i pl.length with q | q
          · exact q
          · exact absurd (nI_le q (by omega)) c_7
        obtain ⟨e, he⟩ : ∃ e, pl[i]? = some e := ⟨_, List.getElem?_eq_getElem hlt⟩
        obtain ⟨e1, e2, e3, e4, e5⟩ := hE i e he
        refine r_aload_n (n := 11) C dPD_addTo_10 rfl rfl ?_
        refine r_get (ci := 1) (n := 14) C hinPD rfl 0 (by decide) tw_51 rfl dPD_addTo_11 rfl (by assumption) rfl ?_
        refine r_iload_n (n := 15) C dPD_addTo_14 rfl rfl ?_
        refine r_iald (n := 16) C dPD_addTo_15 rfl hq2 i rfl (by omega) (by omega) ?_
        refine r_iload_n (n := 17) C dPD_addTo_16 rfl rfl ?_
        refine r_icmp_ne (tgt := 61) (n := 20) C dPD_addTo_17 (by decide) rfl (fun c_17 => ?_) (fun c_17 => ?_)
        · have hz : ¬ e.1 = t := by rw [← e1]; exact c_17
          refine r_iinc (n := 64) C dPD_addTo_61 rfl rfl (nI_i i) (by decide) ?_
          refine r_goto (tgt := 2) C dPD_addTo_64 (by decide) ?_
          refine V.byk (ls' := [(0, .ref P.1), (1, .ref A.1), (2, .int t), (3, .int (nI (i + 1)))]) rfl ?_
          exact ih _ (by omega) (i + 1) h1 f1 g1 rfl (by omega) (by rw [addP_take he, if_neg hz]; exact hR1) hO1
        · have hz : e.1 = t := by rw [← e1]; exact c_17
          have hl1 := addP_len (t := t) (L := L) (pl.take i)
          rw [List.length_take] at hl1
          refine r_iload_n (n := 21) C dPD_addTo_20 rfl rfl ?_
          refine r_iconst (v := 3) (n := 22) C dPD_addTo_21 rfl (by decide) ?_
          refine r_imul (n := 23) C dPD_addTo_22 rfl ?_
          refine r_istore (n := 25) C dPD_addTo_23 rfl (by decide) ?_
          refine r_aload_n (n := 26) C dPD_addTo_25 rfl rfl ?_
          refine r_aload_n (n := 27) C dPD_addTo_26 rfl rfl ?_
          refine r_get (ci := 1) (n := 30) C hinPD rfl 1 (by decide) tw_52 rfl dPD_addTo_27 rfl (by assumption) rfl ?_
          refine r_iload (n := 32) C dPD_addTo_30 rfl rfl ?_
          refine r_iald (n := 33) C dPD_addTo_32 rfl hq3 (i * 3) (ix0 i) (by omega) (by omega) ?_
          refine r_aload_n (n := 34) C dPD_addTo_33 rfl rfl ?_
          refine r_get (ci := 1) (n := 37) C hinPD rfl 1 (by decide) tw_52 rfl dPD_addTo_34 rfl (by assumption) rfl ?_
          refine r_iload (n := 39) C dPD_addTo_37 rfl rfl ?_
          refine r_iconst (v := 1) (n := 40) C dPD_addTo_39 rfl (by decide) ?_
          refine r_iadd (n := 41) C dPD_addTo_40 rfl ?_
          refine r_iald (n := 42) C dPD_addTo_41 rfl hq3 (i * 3 + 1) (ix1 i) (by omega) (by omega) ?_
          refine r_aload_n (n := 43) C dPD_addTo_42 rfl rfl ?_
          refine r_get (ci := 1) (n := 46) C hinPD rfl 1 (by decide) tw_52 rfl dPD_addTo_43 rfl (by assumption) rfl ?_
          refine r_iload (n := 48) C dPD_addTo_46 rfl rfl ?_
          refine r_iconst (v := 2) (n := 49) C dPD_addTo_48 rfl (by decide) ?_
          refine r_iadd (n := 50) C dPD_addTo_49 rfl ?_
          refine r_iald (n := 51) C dPD_addTo_50 rfl hq3 (i * 3 + 2) (ix2 i) (by omega) (by omega) ?_
          refine r_aload_n (n := 52) C dPD_addTo_51 rfl rfl ?_
          refine r_get (ci := 1) (n := 55) C hinPD rfl 2 (by decide) tw_53 rfl dPD_addTo_52 rfl (by assumption) rfl ?_
          refine r_iload_n (n := 56) C dPD_addTo_55 rfl rfl ?_
          refine r_iald (n := 57) C dPD_addTo_56 rfl hq4 i rfl (by omega) (by omega) ?_
          refine r_i2l (n := 58) C dPD_addTo_57 rfl ?_
          refine r_cv (n := 61) (rn_V (z := 4) (ci := 0) (T := TRW) C (c_RW_addWeight (Kl K) (Ko K) h1 A f1 g1 _ (fv (i * 3)) (fv (i * 3 + 1)) (fv (i * 3 + 2)) (fb i).toInt64 hR1 (addP_srt _ hs) (by omega)) tw_452 tw_161 tw_162 tw_2 tw_163 rfl rfl ndRW_addWeight ⟨Nat.le_of_ble_eq_true rfl, Nat.le_of_ble_eq_true rfl⟩ (by assumption) rfl rfl rfl (Nat.le_of_ble_eq_true rfl) dPD_addTo_58 ⟨Nat.le_of_ble_eq_true rfl, Nat.le_of_ble_eq_true rfl⟩) rfl (fun h2 hq => ?_)
          obtain ⟨f2, g2, hR2, hO2⟩ := hq
          rw [e2, e3, e4, e5] at hR2
          refine r_iinc (n := 64) C dPD_addTo_61 rfl rfl (nI_i i) (by decide) ?_
          refine r_goto (tgt := 2) C dPD_addTo_64 (by decide) ?_
          refine V.byk (ls' := [(0, .ref P.1), (1, .ref A.1), (2, .int t), (3, .int (nI (i + 1)))]) rfl ?_
          exact ih _ (by omega) (i + 1) h2 f2 g2 rfl (by omega) (by rw [addP_take he, if_pos hz]; exact hR2) (hO1.tr hO2)
  refine r_iconst (v := 0) (n := 1) C dPD_addTo_0 rfl (by decide) ?_
  refine r_istore_n (n := 2) C dPD_addTo_1 rfl (by decide) ?_
  refine V.byk (ls' := [(0, .ref P.1), (1, .ref A.1), (2, .int t), (3, .int (nI 0))]) rfl ?_
  exact loop _ 0 h f g rfl (Nat.zero_le _) hRA Off.rf
set_option maxHeartbeats 4000000 in
set_option maxRecDepth 100000 in
/-- Pending() -/
theorem c_PD_init (l : Launch) (o : Om) (h : AH) (a : Nat) (ha : h a = some (.inr (1, [.null, .null, .null, .int 0]))) : Mt l o yPD_init cPD_init 1 none ({ frames := 1, cells := 3, slots := 60, locals := 24 } : Room) [.ref a] h (QV o (fun h' => ∃ t v b, h t = none ∧ h v = none ∧ h b = none ∧ PA o h' (a, t, v, b) [] ∧ POff (a, t, v, b) h h')) (3) (60) := by
  refine Met.ofV (by decide) (Nat.le_of_ble_eq_true rfl) (fun K hl ho C => ?_)
  subst hl; subst ho
  refine r_aload_n (n := 1) C dPD_init_0 rfl rfl ?_
  refine r_objInit (n := 4) C tw_50 tw_21 tw_22 dPD_init_1 rfl (Nat.le_of_ble_eq_true rfl) (Nat.le_of_ble_eq_true rfl) ?_
  refine r_aload_n (n := 5) C dPD_init_4 rfl rfl ?_
  refine r_bipush (v := 12) (n := 7) C dPD_init_5 rfl (by decide) ?_
  refine r_newi (n := 9) C tw_43 dPD_init_7 rfl rfl (by decide) (by decide) (Nat.le_of_ble_eq_true rfl) (Nat.le_of_ble_eq_true rfl) (fun t ht0 => ?_)
  have nt : t ≠ a := fun e => by rw [e, ha] at ht0; cases ht0
  generalize eh1 : hu h t _ = h1
  have ha1 := ((congrFun eh1.symm a).trans (hu_ne _ _ (Ne.symm nt))).trans ha
  have ht1 := (congrFun eh1.symm t).trans (hu_eq _ _ _)
  refine r_putF (ci := 1) (n := 12) C hinPD tyPD okPD nmPD rfl 0 (by decide) tw_51 rfl rfl rfl rfl (okPD 0 (by decide)) rfl rfl dPD_init_9 rfl ha1 (Nat.le_of_ble_eq_true rfl) ?_
  generalize eh2 : hu h1 a _ = h2
  have ha2 := (congrFun eh2.symm a).trans (hu_eq _ _ _)
  have ht2 := ((congrFun eh2.symm t).trans (hu_ne _ _ nt)).trans ht1
  refine r_aload_n (n := 13) C dPD_init_12 rfl rfl ?_
  refine r_bipush (v := 36) (n := 15) C dPD_init_13 rfl (by decide) ?_
  refine r_newi (n := 17) C tw_43 dPD_init_15 rfl rfl (by decide) (by decide) (Nat.le_of_ble_eq_true rfl) (Nat.le_of_ble_eq_true rfl) (fun v hv0 => ?_)
  have nv : v ≠ a := fun e => by rw [e, ha2] at hv0; cases hv0
  have nvt : v ≠ t := fun e => by rw [e, ht2] at hv0; cases hv0
  have hv00 : h v = none := by rw [← eh2, hu_ne _ _ nv, ← eh1, hu_ne _ _ nvt] at hv0; exact hv0
  generalize eh3 : hu h2 v _ = h3
  have ha3 := ((congrFun eh3.symm a).trans (hu_ne _ _ (Ne.symm nv))).trans ha2
  have ht3 := ((congrFun eh3.symm t).trans (hu_ne _ _ (Ne.symm nvt))).trans ht2
  have hv3 := (congrFun eh3.symm v).trans (hu_eq _ _ _)
  refine r_putF (ci := 1) (n := 20) C hinPD tyPD okPD nmPD rfl 1 (by decide) tw_52 rfl rfl rfl rfl (okPD 1 (by decide)) rfl rfl dPD_init_17 rfl ha3 (Nat.le_of_ble_eq_true rfl) ?_
  generalize eh4 : hu h3 a _ = h4
  have ha4 := (congrFun eh4.symm a).trans (hu_eq _ _ _)
  have ht4 := ((congrFun eh4.symm t).trans (hu_ne _ _ nt)).trans ht3
  have hv4 := ((congrFun eh4.symm v).trans (hu_ne _ _ nv)).trans hv3
  refine r_aload_n (n := 21) C dPD_init_20 rfl rfl ?_
  refine r_bipush (v := 12) (n := 23) C dPD_init_21 rfl (by decide) ?_
  refine r_newi (n := 25) C tw_43 dPD_init_23 rfl rfl (by decide) (by decide) (Nat.le_of_ble_eq_true rfl) (Nat.le_of_ble_eq_true rfl) (fun b hb0 => ?_)
  have nb : b ≠ a := fun e => by rw [e, ha4] at hb0; cases hb0
  have nbt : b ≠ t := fun e => by rw [e, ht4] at hb0; cases hb0
  have nbv : b ≠ v := fun e => by rw [e, hv4] at hb0; cases hb0
  have hb00 : h b = none := by rw [← eh4, hu_ne _ _ nb, ← eh3, hu_ne _ _ nbv, ← eh2, hu_ne _ _ nb, ← eh1, hu_ne _ _ nbt] at hb0; exact hb0
  generalize eh5 : hu h4 b _ = h5
  have ha5 := ((congrFun eh5.symm a).trans (hu_ne _ _ (Ne.symm nb))).trans ha4
  have ht5 := ((congrFun eh5.symm t).trans (hu_ne _ _ (Ne.symm nbt))).trans ht4
  have hv5 := ((congrFun eh5.symm v).trans (hu_ne _ _ (Ne.symm nbv))).trans hv4
  have hb5 := (congrFun eh5.symm b).trans (hu_eq _ _ _)
  refine r_putF (ci := 1) (n := 28) C hinPD tyPD okPD nmPD rfl 2 (by decide) tw_53 rfl rfl rfl rfl (okPD 2 (by decide)) rfl rfl dPD_init_25 rfl ha5 (Nat.le_of_ble_eq_true rfl) ?_
  generalize eh6 : hu h5 a _ = h6
  have ha6 := (congrFun eh6.symm a).trans (hu_eq _ _ _)
  have ht6 := ((congrFun eh6.symm t).trans (hu_ne _ _ nt)).trans ht5
  have hv6 := ((congrFun eh6.symm v).trans (hu_ne _ _ nv)).trans hv5
  have hb6 := ((congrFun eh6.symm b).trans (hu_ne _ _ nb)).trans hb5
  refine r_aload_n (n := 29) C dPD_init_28 rfl rfl ?_
  refine r_iconst (v := 0) (n := 30) C dPD_init_29 rfl (by decide) ?_
  refine r_put (ci := 1) (n := 33) C hinPD tyPD okPD nmPD rfl 3 (by decide) tw_54 rfl rfl (okPD 3 (by decide)) rfl rfl dPD_init_30 rfl ha6 (Nat.le_of_ble_eq_true rfl) ?_
  generalize eh7 : hu h6 a _ = h7
  have ha7 := (congrFun eh7.symm a).trans (hu_eq _ _ _)
  have ht7 := ((congrFun eh7.symm t).trans (hu_ne _ _ nt)).trans ht6
  have hv7 := ((congrFun eh7.symm v).trans (hu_ne _ _ nv)).trans hv6
  have hb7 := ((congrFun eh7.symm b).trans (hu_ne _ _ nb)).trans hb6
  exact r_vret C dPD_init_33 (Nat.le_refl _) (Nat.le_refl _) ⟨t, v, b, ht0, hv00, hb00, ⟨_, _, _, ha7, ht7, hv7, hb7, Nat.zero_le _, (fun i e h0 => by simp at h0), Ne.symm nvt, Ne.symm nbt, Ne.symm nbv⟩, fun q q1 q2 q3 q4 => by rw [← eh7, hu_ne _ _ q1, ← eh6, hu_ne _ _ q1, ← eh5, hu_ne _ _ q4, ← eh4, hu_ne _ _ q1, ← eh3, hu_ne _ _ q3, ← eh2, hu_ne _ _ q1, ← eh1, hu_ne _ _ q2]⟩
set_option maxHeartbeats 4000000 in
set_option maxRecDepth 100000 in
/-- Record() -/
theorem c_RC_init (l : Launch) (o : Om) (h : AH) (a : Nat)  : Mt l o yRC_init cRC_init 1 none ({ frames := 1, cells := 0, slots := 0, locals := 16 } : Room) [.ref a] h (QV o (fun h' => h' = h)) (0) (0) := by
  refine Met.ofV (by decide) (Nat.le_of_ble_eq_true rfl) (fun K hl ho C => ?_)
  subst hl; subst ho
  refine r_aload_n (n := 1) C dRC_init_0 rfl rfl ?_
  refine r_objInit (n := 4) C tw_106 tw_21 tw_22 dRC_init_1 rfl (Nat.le_of_ble_eq_true rfl) (Nat.le_of_ble_eq_true rfl) ?_
  exact r_vret C dRC_init_4 (Nat.le_refl _) (Nat.le_refl _) rfl
set_option maxHeartbeats 4000000 in
set_option maxRecDepth 100000 in
/-- DeltaViews$TableRule() -/
theorem c_TR_init (l : Launch) (o : Om) (h : AH) (a : Nat) (p0 : Int32) (ha : h a = some (.inr (2, [.int 0]))) : Mt l o yTR_init cTR_init 2 none ({ frames := 2, cells := 0, slots := 0, locals := 36 } : Room) [.ref a, .int p0] h (QV o (fun h' => h' = hu h a (.inr (2, [.int p0])))) (0) (0) := by
  refine Met.ofV (by decide) (Nat.le_of_ble_eq_true rfl) (fun K hl ho C => ?_)
  subst hl; subst ho
  refine r_aload_n (n := 1) C dTR_init_0 rfl rfl ?_
  refine r_cv (n := 4) (rn_I (z := 0) C (c_RC_init (Kl K) (Ko K) h a) tw_103 tw_104 tw_5 rfl tw_105 rfl rfl ndRC_init.2 ⟨Nat.le_of_ble_eq_true rfl, Nat.le_of_ble_eq_true rfl⟩ rfl rfl (Nat.le_of_ble_eq_true rfl) dTR_init_1 ⟨Nat.le_of_ble_eq_true rfl, Nat.le_of_ble_eq_true rfl⟩) rfl (fun h1 hq => ?_)
  rw [hq]
  refine r_aload_n (n := 5) C dTR_init_4 rfl rfl ?_
  refine r_iload_n (n := 6) C dTR_init_5 rfl rfl ?_
  refine r_putF (ci := 2) (n := 9) C hinTR tyTR okTR nmTR rfl 0 (by decide) tw_107 rfl rfl rfl rfl (okTR 0 (by decide)) rfl rfl dTR_init_6 rfl ha (Nat.le_of_ble_eq_true rfl) ?_
  exact r_vret C dTR_init_9 (Nat.le_refl _) (Nat.le_refl _) rfl
set_option maxHeartbeats 4000000 in
set_option maxRecDepth 100000 in
/-- DeltaViews$FilterRule() -/
theorem c_FR_init (l : Launch) (o : Om) (h : AH) (a : Nat) (p0 p1 p2 p3 : Int32) (ha : h a = some (.inr (3, [.int 0, .int 0, .int 0, .int 0]))) : Mt l o yFR_init cFR_init 5 none ({ frames := 2, cells := 0, slots := 0, locals := 36 } : Room) [.ref a, .int p0, .int p1, .int p2, .int p3] h (QV o (fun h' => h' = hu h a (.inr (3, [.int p0, .int p1, .int p2, .int p3])))) (0) (0) := by
  refine Met.ofV (by decide) (Nat.le_of_ble_eq_true rfl) (fun K hl ho C => ?_)
  subst hl; subst ho
  refine r_aload_n (n := 1) C dFR_init_0 rfl rfl ?_
  refine r_cv (n := 4) (rn_I (z := 0) C (c_RC_init (Kl K) (Ko K) h a) tw_305 tw_104 tw_5 rfl tw_105 rfl rfl ndRC_init.2 ⟨Nat.le_of_ble_eq_true rfl, Nat.le_of_ble_eq_true rfl⟩ rfl rfl (Nat.le_of_ble_eq_true rfl) dFR_init_1 ⟨Nat.le_of_ble_eq_true rfl, Nat.le_of_ble_eq_true rfl⟩) rfl (fun h1 hq => ?_)
  rw [hq]
  refine r_aload_n (n := 5) C dFR_init_4 rfl rfl ?_
  refine r_iload_n (n := 6) C dFR_init_5 rfl rfl ?_
  refine r_putF (ci := 3) (n := 9) C hinFR tyFR okFR nmFR rfl 0 (by decide) tw_306 rfl rfl rfl rfl (okFR 0 (by decide)) rfl rfl dFR_init_6 rfl ha (Nat.le_of_ble_eq_true rfl) ?_
  refine r_aload_n (n := 10) C dFR_init_9 rfl rfl ?_
  refine r_iload_n (n := 11) C dFR_init_10 rfl rfl ?_
  refine r_putF (ci := 3) (n := 14) C hinFR tyFR okFR nmFR rfl 1 (by decide) tw_307 rfl rfl rfl rfl (okFR 1 (by decide)) rfl rfl dFR_init_11 rfl (hu_eq _ _ _) (Nat.le_of_ble_eq_true rfl) ?_
  refine r_aload_n (n := 15) C dFR_init_14 rfl rfl ?_
  refine r_iload_n (n := 16) C dFR_init_15 rfl rfl ?_
  refine r_putF (ci := 3) (n := 19) C hinFR tyFR okFR nmFR rfl 2 (by decide) tw_308 rfl rfl rfl rfl (okFR 2 (by decide)) rfl rfl dFR_init_16 rfl (hu_eq _ _ _) (Nat.le_of_ble_eq_true rfl) ?_
  refine r_aload_n (n := 20) C dFR_init_19 rfl rfl ?_
  refine r_iload (n := 22) C dFR_init_20 rfl rfl ?_
  refine r_putF (ci := 3) (n := 25) C hinFR tyFR okFR nmFR rfl 3 (by decide) tw_309 rfl rfl rfl rfl (okFR 3 (by decide)) rfl rfl dFR_init_22 rfl (hu_eq _ _ _) (Nat.le_of_ble_eq_true rfl) ?_
  exact r_vret C dFR_init_25 (Nat.le_refl _) (Nat.le_refl _) (by rw [hu_hu, hu_hu, hu_hu]; rfl)
set_option maxHeartbeats 4000000 in
set_option maxRecDepth 100000 in
/-- DeltaViews$MapRule() -/
theorem c_MR_init (l : Launch) (o : Om) (h : AH) (a : Nat) (p0 p1 p2 p3 : Int32) (ha : h a = some (.inr (4, [.int 0, .int 0, .int 0, .int 0]))) : Mt l o yMR_init cMR_init 5 none ({ frames := 2, cells := 0, slots := 0, locals := 36 } : Room) [.ref a, .int p0, .int p1, .int p2, .int p3] h (QV o (fun h' => h' = hu h a (.inr (4, [.int p0, .int p1, .int p2, .int p3])))) (0) (0) := by
  refine Met.ofV (by decide) (Nat.le_of_ble_eq_true rfl) (fun K hl ho C => ?_)
  subst hl; subst ho
  refine r_aload_n (n := 1) C dMR_init_0 rfl rfl ?_
  refine r_cv (n := 4) (rn_I (z := 0) C (c_RC_init (Kl K) (Ko K) h a) tw_328 tw_104 tw_5 rfl tw_105 rfl rfl ndRC_init.2 ⟨Nat.le_of_ble_eq_true rfl, Nat.le_of_ble_eq_true rfl⟩ rfl rfl (Nat.le_of_ble_eq_true rfl) dMR_init_1 ⟨Nat.le_of_ble_eq_true rfl, Nat.le_of_ble_eq_true rfl⟩) rfl (fun h1 hq => ?_)
  rw [hq]
  refine r_aload_n (n := 5) C dMR_init_4 rfl rfl ?_
  refine r_iload_n (n := 6) C dMR_init_5 rfl rfl ?_
  refine r_putF (ci := 4) (n := 9) C hinMR tyMR okMR nmMR rfl 0 (by decide) tw_329 rfl rfl rfl rfl (okMR 0 (by decide)) rfl rfl dMR_init_6 rfl ha (Nat.le_of_ble_eq_true rfl) ?_
  refine r_aload_n (n := 10) C dMR_init_9 rfl rfl ?_
  refine r_iload_n (n := 11) C dMR_init_10 rfl rfl ?_
  refine r_putF (ci := 4) (n := 14) C hinMR tyMR okMR nmMR rfl 1 (by decide) tw_330 rfl rfl rfl rfl (okMR 1 (by decide)) rfl rfl dMR_init_11 rfl (hu_eq _ _ _) (Nat.le_of_ble_eq_true rfl) ?_
  refine r_aload_n (n := 15) C dMR_init_14 rfl rfl ?_
  refine r_iload_n (n := 16) C dMR_init_15 rfl rfl ?_
  refine r_putF (ci := 4) (n := 19) C hinMR tyMR okMR nmMR rfl 2 (by decide) tw_331 rfl rfl rfl rfl (okMR 2 (by decide)) rfl rfl dMR_init_16 rfl (hu_eq _ _ _) (Nat.le_of_ble_eq_true rfl) ?_
  refine r_aload_n (n := 20) C dMR_init_19 rfl rfl ?_
  refine r_iload (n := 22) C dMR_init_20 rfl rfl ?_
  refine r_putF (ci := 4) (n := 25) C hinMR tyMR okMR nmMR rfl 3 (by decide) tw_332 rfl rfl rfl rfl (okMR 3 (by decide)) rfl rfl dMR_init_22 rfl (hu_eq _ _ _) (Nat.le_of_ble_eq_true rfl) ?_
  exact r_vret C dMR_init_25 (Nat.le_refl _) (Nat.le_refl _) (by rw [hu_hu, hu_hu, hu_hu]; rfl)
set_option maxHeartbeats 4000000 in
set_option maxRecDepth 100000 in
/-- DeltaViews$JoinRule() -/
theorem c_JR_init (l : Launch) (o : Om) (h : AH) (a : Nat) (p0 p1 p2 p3 p4 : Int32) (ha : h a = some (.inr (5, [.int 0, .int 0, .int 0, .int 0, .int 0]))) : Mt l o yJR_init cJR_init 6 none ({ frames := 2, cells := 0, slots := 0, locals := 36 } : Room) [.ref a, .int p0, .int p1, .int p2, .int p3, .int p4] h (QV o (fun h' => h' = hu h a (.inr (5, [.int p0, .int p1, .int p2, .int p3, .int p4])))) (0) (0) := by
  refine Met.ofV (by decide) (Nat.le_of_ble_eq_true rfl) (fun K hl ho C => ?_)
  subst hl; subst ho
  refine r_aload_n (n := 1) C dJR_init_0 rfl rfl ?_
  refine r_cv (n := 4) (rn_I (z := 0) C (c_RC_init (Kl K) (Ko K) h a) tw_351 tw_104 tw_5 rfl tw_105 rfl rfl ndRC_init.2 ⟨Nat.le_of_ble_eq_true rfl, Nat.le_of_ble_eq_true rfl⟩ rfl rfl (Nat.le_of_ble_eq_true rfl) dJR_init_1 ⟨Nat.le_of_ble_eq_true rfl, Nat.le_of_ble_eq_true rfl⟩) rfl (fun h1 hq => ?_)
  rw [hq]
  refine r_aload_n (n := 5) C dJR_init_4 rfl rfl ?_
  refine r_iload_n (n := 6) C dJR_init_5 rfl rfl ?_
  refine r_putF (ci := 5) (n := 9) C hinJR tyJR okJR nmJR rfl 0 (by decide) tw_352 rfl rfl rfl rfl (okJR 0 (by decide)) rfl rfl dJR_init_6 rfl ha (Nat.le_of_ble_eq_true rfl) ?_
  refine r_aload_n (n := 10) C dJR_init_9 rfl rfl ?_
  refine r_iload_n (n := 11) C dJR_init_10 rfl rfl ?_
  refine r_putF (ci := 5) (n := 14) C hinJR tyJR okJR nmJR rfl 1 (by decide) tw_353 rfl rfl rfl rfl (okJR 1 (by decide)) rfl rfl dJR_init_11 rfl (hu_eq _ _ _) (Nat.le_of_ble_eq_true rfl) ?_
  refine r_aload_n (n := 15) C dJR_init_14 rfl rfl ?_
  refine r_iload_n (n := 16) C dJR_init_15 rfl rfl ?_
  refine r_putF (ci := 5) (n := 19) C hinJR tyJR okJR nmJR rfl 2 (by decide) tw_354 rfl rfl rfl rfl (okJR 2 (by decide)) rfl rfl dJR_init_16 rfl (hu_eq _ _ _) (Nat.le_of_ble_eq_true rfl) ?_
  refine r_aload_n (n := 20) C dJR_init_19 rfl rfl ?_
  refine r_iload (n := 22) C dJR_init_20 rfl rfl ?_
  refine r_putF (ci := 5) (n := 25) C hinJR tyJR okJR nmJR rfl 3 (by decide) tw_355 rfl rfl rfl rfl (okJR 3 (by decide)) rfl rfl dJR_init_22 rfl (hu_eq _ _ _) (Nat.le_of_ble_eq_true rfl) ?_
  refine r_aload_n (n := 26) C dJR_init_25 rfl rfl ?_
  refine r_iload (n := 28) C dJR_init_26 rfl rfl ?_
  refine r_putF (ci := 5) (n := 31) C hinJR tyJR okJR nmJR rfl 4 (by decide) tw_356 rfl rfl rfl rfl (okJR 4 (by decide)) rfl rfl dJR_init_28 rfl (hu_eq _ _ _) (Nat.le_of_ble_eq_true rfl) ?_
  exact r_vret C dJR_init_31 (Nat.le_refl _) (Nat.le_refl _) (by rw [hu_hu, hu_hu, hu_hu, hu_hu]; rfl)
set_option maxHeartbeats 4000000 in
set_option maxRecDepth 100000 in
/-- DeltaViews$CombineRule() -/
theorem c_CR_init (l : Launch) (o : Om) (h : AH) (a : Nat) (p0 p1 p2 : Int32) (ha : h a = some (.inr (6, [.int 0, .int 0, .int 0]))) : Mt l o yCR_init cCR_init 4 none ({ frames := 2, cells := 0, slots := 0, locals := 36 } : Room) [.ref a, .int p0, .int p1, .int p2] h (QV o (fun h' => h' = hu h a (.inr (6, [.int p0, .int p1, .int p2])))) (0) (0) := by
  refine Met.ofV (by decide) (Nat.le_of_ble_eq_true rfl) (fun K hl ho C => ?_)
  subst hl; subst ho
  refine r_aload_n (n := 1) C dCR_init_0 rfl rfl ?_
  refine r_cv (n := 4) (rn_I (z := 0) C (c_RC_init (Kl K) (Ko K) h a) tw_377 tw_104 tw_5 rfl tw_105 rfl rfl ndRC_init.2 ⟨Nat.le_of_ble_eq_true rfl, Nat.le_of_ble_eq_true rfl⟩ rfl rfl (Nat.le_of_ble_eq_true rfl) dCR_init_1 ⟨Nat.le_of_ble_eq_true rfl, Nat.le_of_ble_eq_true rfl⟩) rfl (fun h1 hq => ?_)
  rw [hq]
  refine r_aload_n (n := 5) C dCR_init_4 rfl rfl ?_
  refine r_iload_n (n := 6) C dCR_init_5 rfl rfl ?_
  refine r_putF (ci := 6) (n := 9) C hinCR tyCR okCR nmCR rfl 0 (by decide) tw_378 rfl rfl rfl rfl (okCR 0 (by decide)) rfl rfl dCR_init_6 rfl ha (Nat.le_of_ble_eq_true rfl) ?_
  refine r_aload_n (n := 10) C dCR_init_9 rfl rfl ?_
  refine r_iload_n (n := 11) C dCR_init_10 rfl rfl ?_
  refine r_putF (ci := 6) (n := 14) C hinCR tyCR okCR nmCR rfl 1 (by decide) tw_379 rfl rfl rfl rfl (okCR 1 (by decide)) rfl rfl dCR_init_11 rfl (hu_eq _ _ _) (Nat.le_of_ble_eq_true rfl) ?_
  refine r_aload_n (n := 15) C dCR_init_14 rfl rfl ?_
  refine r_iload_n (n := 16) C dCR_init_15 rfl rfl ?_
  refine r_putF (ci := 6) (n := 19) C hinCR tyCR okCR nmCR rfl 2 (by decide) tw_380 rfl rfl rfl rfl (okCR 2 (by decide)) rfl rfl dCR_init_16 rfl (hu_eq _ _ _) (Nat.le_of_ble_eq_true rfl) ?_
  exact r_vret C dCR_init_19 (Nat.le_refl _) (Nat.le_refl _) (by rw [hu_hu, hu_hu]; rfl)
set_option maxHeartbeats 4000000 in
set_option maxRecDepth 100000 in
/-- DeltaViews$DistinctRule() -/
theorem c_DR_init (l : Launch) (o : Om) (h : AH) (a : Nat) (p0 : Int32) (ha : h a = some (.inr (7, [.int 0]))) : Mt l o yDR_init cDR_init 2 none ({ frames := 2, cells := 0, slots := 0, locals := 36 } : Room) [.ref a, .int p0] h (QV o (fun h' => h' = hu h a (.inr (7, [.int p0])))) (0) (0) := by
  refine Met.ofV (by decide) (Nat.le_of_ble_eq_true rfl) (fun K hl ho C => ?_)
  subst hl; subst ho
  refine r_aload_n (n := 1) C dDR_init_0 rfl rfl ?_
  refine r_cv (n := 4) (rn_I (z := 0) C (c_RC_init (Kl K) (Ko K) h a) tw_397 tw_104 tw_5 rfl tw_105 rfl rfl ndRC_init.2 ⟨Nat.le_of_ble_eq_true rfl, Nat.le_of_ble_eq_true rfl⟩ rfl rfl (Nat.le_of_ble_eq_true rfl) dDR_init_1 ⟨Nat.le_of_ble_eq_true rfl, Nat.le_of_ble_eq_true rfl⟩) rfl (fun h1 hq => ?_)
  rw [hq]
  refine r_aload_n (n := 5) C dDR_init_4 rfl rfl ?_
  refine r_iload_n (n := 6) C dDR_init_5 rfl rfl ?_
  refine r_putF (ci := 7) (n := 9) C hinDR tyDR okDR nmDR rfl 0 (by decide) tw_398 rfl rfl rfl rfl (okDR 0 (by decide)) rfl rfl dDR_init_6 rfl ha (Nat.le_of_ble_eq_true rfl) ?_
  exact r_vret C dDR_init_9 (Nat.le_refl _) (Nat.le_refl _) rfl
set_option maxHeartbeats 4000000 in
set_option maxRecDepth 100000 in
/-- DeltaViews$GroupRule() -/
theorem c_GR_init (l : Launch) (o : Om) (h : AH) (a : Nat) (p0 p1 p2 p3 : Int32) (ha : h a = some (.inr (8, [.int 0, .int 0, .int 0, .int 0]))) : Mt l o yGR_init cGR_init 5 none ({ frames := 2, cells := 0, slots := 0, locals := 36 } : Room) [.ref a, .int p0, .int p1, .int p2, .int p3] h (QV o (fun h' => h' = hu h a (.inr (8, [.int p0, .int p1, .int p2, .int p3])))) (0) (0) := by
  refine Met.ofV (by decide) (Nat.le_of_ble_eq_true rfl) (fun K hl ho C => ?_)
  subst hl; subst ho
  refine r_aload_n (n := 1) C dGR_init_0 rfl rfl ?_
  refine r_cv (n := 4) (rn_I (z := 0) C (c_RC_init (Kl K) (Ko K) h a) tw_410 tw_104 tw_5 rfl tw_105 rfl rfl ndRC_init.2 ⟨Nat.le_of_ble_eq_true rfl, Nat.le_of_ble_eq_true rfl⟩ rfl rfl (Nat.le_of_ble_eq_true rfl) dGR_init_1 ⟨Nat.le_of_ble_eq_true rfl, Nat.le_of_ble_eq_true rfl⟩) rfl (fun h1 hq => ?_)
  rw [hq]
  refine r_aload_n (n := 5) C dGR_init_4 rfl rfl ?_
  refine r_iload_n (n := 6) C dGR_init_5 rfl rfl ?_
  refine r_putF (ci := 8) (n := 9) C hinGR tyGR okGR nmGR rfl 0 (by decide) tw_411 rfl rfl rfl rfl (okGR 0 (by decide)) rfl rfl dGR_init_6 rfl ha (Nat.le_of_ble_eq_true rfl) ?_
  refine r_aload_n (n := 10) C dGR_init_9 rfl rfl ?_
  refine r_iload_n (n := 11) C dGR_init_10 rfl rfl ?_
  refine r_putF (ci := 8) (n := 14) C hinGR tyGR okGR nmGR rfl 1 (by decide) tw_412 rfl rfl rfl rfl (okGR 1 (by decide)) rfl rfl dGR_init_11 rfl (hu_eq _ _ _) (Nat.le_of_ble_eq_true rfl) ?_
  refine r_aload_n (n := 15) C dGR_init_14 rfl rfl ?_
  refine r_iload_n (n := 16) C dGR_init_15 rfl rfl ?_
  refine r_putF (ci := 8) (n := 19) C hinGR tyGR okGR nmGR rfl 2 (by decide) tw_413 rfl rfl rfl rfl (okGR 2 (by decide)) rfl rfl dGR_init_16 rfl (hu_eq _ _ _) (Nat.le_of_ble_eq_true rfl) ?_
  refine r_aload_n (n := 20) C dGR_init_19 rfl rfl ?_
  refine r_iload (n := 22) C dGR_init_20 rfl rfl ?_
  refine r_putF (ci := 8) (n := 25) C hinGR tyGR okGR nmGR rfl 3 (by decide) tw_414 rfl rfl rfl rfl (okGR 3 (by decide)) rfl rfl dGR_init_22 rfl (hu_eq _ _ _) (Nat.le_of_ble_eq_true rfl) ?_
  exact r_vret C dGR_init_25 (Nat.le_refl _) (Nat.le_refl _) (by rw [hu_hu, hu_hu, hu_hu]; rfl)
end
section
/-! RULES: how a node follows from the slots -/
def SA (o : Om) (h : AH) (s : Nat) (S : Nat → Nat × Nat × Nat × Nat) (Ls : Nat → List Rw) : Prop := ∃ fs : Nat → Option Nat, h s = some (.inl (o.2.1 2, 13, .inr (.inr (.inr (.inr fs))))) ∧ ∀ i, i < 13 → fs i = some (S i).1 ∧ RA o h (S i) (Ls i)
theorem SA.keep {o : Om} {h h' : AH} {s : Nat} {S : Nat → Nat × Nat × Nat × Nat} {Ls : Nat → List Rw} {A : Nat × Nat × Nat × Nat} {f : Nat → Int32} {g : Nat → Int64} {L : List Rw} (hA : RA0 o h A f g L) (hS : SA o h s S Ls) (dj : ∀ i, i < 13 → Dj A (S i)) (off : Off A h h') : SA o h' s S Ls := by
  obtain ⟨fs, h1, h2⟩ := hS
  obtain ⟨a1, a2, a3, -, -, -⟩ := id hA
  refine ⟨fs, (off _ (fun e => ?_) (fun e => ?_) (fun e => ?_)).trans h1, fun i hi => ?_⟩
  · rw [e, a1] at h1; simp at h1
  · rw [e, a2] at h1; simp at h1
  · rw [e, a3] at h1; simp at h1
  · obtain ⟨h3, f1, g1, h4⟩ := h2 i hi
    exact ⟨h3, f1, g1, RA0.keep hA h4 (dj i hi) off⟩
theorem obj_keep {o : Om} {h h' : AH} {A : Nat × Nat × Nat × Nat} {f : Nat → Int32} {g : Nat → Int64} {L : List Rw} (hA : RA0 o h A f g L) {r ci : Nat} {fs : List Value} (hr : h r = some (.inr (ci, fs))) (hc : ci ≠ 0) (off : Off A h h') : h' r = some (.inr (ci, fs)) := by
  obtain ⟨a1, a2, a3, -, -, -⟩ := id hA
  refine (off _ (fun e => ?_) (fun e => ?_) (fun e => ?_)).trans hr
  · rw [e, a1] at hr; simp at hr; exact hc hr.1.symm
  · rw [e, a2] at hr; simp at hr
  · rw [e, a3] at hr; simp at hr
/-- what a rule's fill asks of the slots -/
def FP (o : Om) (h : AH) (s : Nat) (S : Nat → Nat × Nat × Nat × Nat) (Ls : Nat → List Rw) (wk : Nat × Nat × Nat × Nat) : Prop := SA o h s S Ls ∧ ∀ i, i < 13 → Dj wk (S i) ∧ Srt (Ls i) ∧ (Ls i).length ≤ 24
def Gd (F : List Rw → Rw → List Rw) : Prop := ∀ L r, (Srt L → Srt (F L r)) ∧ (F L r).length ≤ L.length + 1
theorem Gd.srt {F : List Rw → Rw → List Rw} (hF : Gd F) {L : List Rw} (M : List Rw) (h : Srt L) : Srt (M.foldl F L) := by
  induction M generalizing L with
  | nil => exact h
  | cons r M ih => exact ih ((hF L r).1 h)
theorem Gd.len {F : List Rw → Rw → List Rw} (hF : Gd F) {L : List Rw} (M : List Rw) : (M.foldl F L).length ≤ L.length + M.length := by
  induction M generalizing L with
  | nil => exact Nat.le_refl _
  | cons r M ih =>
    have h1 := ih (L := F L r)
    have h2 := (hF L r).2
    simp only [List.foldl_cons, List.length_cons]
    omega
def letsF (t : Nat) (n v : Int32) : Bool := match t with
  | 0 => decide (v = n)
  | 1 => decide (v < n)
  | 2 => decide (n < v)
  | _ => decide (¬ v = n)
def codeF (code : Nat) (k : Ky) : Int32 := match code with
  | 3 => 0
  | 4 => k.1 + k.2.1
  | 5 => k.1 - k.2.1
  | c => colv k c
def pickF (code : Nat) (kl kr : Ky) : Int32 := if code < 3 then colv kl code else colv kr (code - 3)
def FRf (col t : Nat) (n : Int32) : List Rw → Rw → List Rw := fun L r => if letsF t n (colv r.1 col) = true then addW L r.1 r.2 else L
def MRf (x y z : Nat) : List Rw → Rw → List Rw := fun L r => addW L (codeF x r.1, codeF y r.1, codeF z r.1) r.2
def DRf : List Rw → Rw → List Rw := fun L r => if 0 < r.2 then addW L r.1 1 else L
def CRf (sg : Int64) : List Rw → Rw → List Rw := fun L r => addW L r.1 (sg * r.2)
def JRf (lc rc x y z : Nat) (lr : Rw) : List Rw → Rw → List Rw := fun L r => if colv lr.1 lc = colv r.1 rc then addW L (pickF x lr.1 r.1, pickF y lr.1 r.1, pickF z lr.1 r.1) (lr.2 * r.2) else L
theorem gdF (col t : Nat) (n : Int32) : Gd (FRf col t n) := fun L r => by
  unfold FRf
  split
  · exact ⟨addW_srt _ _, addW_len _ _⟩
  · exact ⟨id, Nat.le_succ _⟩
theorem gdM (x y z : Nat) : Gd (MRf x y z) := fun L r => ⟨addW_srt _ _, addW_len _ _⟩
theorem gdD : Gd DRf := fun L r => by
  unfold DRf
  split
  · exact ⟨addW_srt _ _, addW_len _ _⟩
  · exact ⟨id, Nat.le_succ _⟩
theorem gdC (sg : Int64) : Gd (CRf sg) := fun L r => ⟨addW_srt _ _, addW_len _ _⟩
theorem gdJ (lc rc x y z : Nat) (lr : Rw) : Gd (JRf lc rc x y z lr) := fun L r => by
  unfold JRf
  split
  · exact ⟨addW_srt _ _, addW_len _ _⟩
  · exact ⟨id, Nat.le_succ _⟩
set_option maxHeartbeats 4000000 in
set_option maxRecDepth 100000 in
/-- TableRule.fill -/
theorem c_TR_fill (l : Launch) (o : Om) (h : AH) (s r : Nat) (S : Nat → Nat × Nat × Nat × Nat) (Ls : Nat → List Rw) (wk : Nat × Nat × Nat × Nat) (f : Nat → Int32) (g : Nat → Int64) (inp : Nat) (hF : FP o h s S Ls wk) (hW : RA0 o h wk f g []) (hcw : wk.2.2.2 = 576) (hinp : inp < 13) (hr : h r = some (.inr (2, [.int (nI inp)]))) : Mt l o yTR_fill cTR_fill 3 none ({ frames := 2, cells := 0, slots := 0, locals := 69 } : Room) [.ref r, .ref s, .ref wk.1] h (QV o (fun h' => ∃ f' g', RA0 o h' wk f' g' (Ls inp) ∧ Off wk h h')) (0) (0) := by
  refine Met.ofV (by decide) (Nat.le_of_ble_eq_true rfl) (fun K hl ho C => ?_)
  subst hl; subst ho
  obtain ⟨fs, hs, hsl⟩ := hF.1
  obtain ⟨hfi, fi, gi, hRi⟩ := hsl inp hinp
  obtain ⟨dj, hsi, hli⟩ := hF.2 inp hinp
  refine r_aload_n (n := 1) C dTR_fill_0 rfl rfl ?_
  refine r_aload_n (n := 2) C dTR_fill_1 rfl rfl ?_
  refine r_aload_n (n := 3) C dTR_fill_2 rfl rfl ?_
  refine r_get (ci := 2) (n := 6) C hinTR rfl 0 (by decide) tw_107 rfl dTR_fill_3 rfl (by assumption) rfl ?_
  refine r_aald (n := 7) (t0 := 2) C dTR_fill_6 rfl (by assumption) rfl inp rfl (by omega) (by omega) hfi ?_
  refine r_cv (n := 10) (rn_V (z := 1) (ci := 0) (T := TRW) C (c_RW_copyFrom (Kl K) (Ko K) h wk f g [] (S inp) fi gi (Ls inp) hW hRi dj (by omega)) tw_271 tw_134 tw_135 tw_2 tw_136 rfl rfl ndRW_copyFrom ⟨Nat.le_of_ble_eq_true rfl, Nat.le_of_ble_eq_true rfl⟩ hW.1 rfl rfl rfl (Nat.le_of_ble_eq_true rfl) dTR_fill_7 ⟨Nat.le_of_ble_eq_true rfl, Nat.le_of_ble_eq_true rfl⟩) rfl (fun h1 hq => ?_)
  exact r_vret C dTR_fill_10 (Nat.le_refl _) (Nat.le_refl _) hq
set_option maxHeartbeats 4000000 in
set_option maxRecDepth 100000 in
/-- FilterRule.lets -/
theorem c_FR_lets (l : Launch) (o : Om) (h : AH) (r inp col t : Nat) (n v : Int32) (ht : t < 4) (hr : h r = some (.inr (3, [.int (nI inp), .int (nI col), .int (nI t), .int n]))) : Mt l o yFR_lets cFR_lets 2 (some .boolean) ({ frames := 0, cells := 0, slots := 0, locals := 0 } : Room) [.ref r, .int v] h (QI o (fun x h' => x = b01 (letsF t n v) ∧ h' = h)) (0) (0) := by
  refine Met.ofV (by decide) (Nat.le_of_ble_eq_true rfl) (fun K hl ho C => ?_)
  subst hl; subst ho
  rcases (show t = 0 ∨ t = 1 ∨ t = 2 ∨ t = 3 by omega) with e | e | e | e <;> subst e
  · refine r_aload_n (n := 1) C dFR_lets_0 rfl rfl ?_
    refine r_get (ci := 3) (n := 4) C hinFR rfl 2 (by decide) tw_308 rfl dFR_lets_1 rfl (by assumption) rfl ?_
    refine r_tableIn (off := 28) (tgt := 32) C dFR_lets_4 (by decide +kernel) (by decide +kernel) (by decide +kernel) (by decide) ?_
    refine r_iload_n (n := 33) C dFR_lets_32 rfl rfl ?_
    refine r_aload_n (n := 34) C dFR_lets_33 rfl rfl ?_
    refine r_get (ci := 3) (n := 37) C hinFR rfl 3 (by decide) tw_309 rfl dFR_lets_34 rfl (by assumption) rfl ?_
    refine r_icmp_ne (tgt := 44) (n := 40) C dFR_lets_37 (by decide) rfl (fun c_37 => ?_) (fun c_37 => ?_)
    · refine r_iconst (v := 0) (n := 45) C dFR_lets_44 rfl (by decide) ?_
      exact r_zret C dFR_lets_45 rfl (Nat.le_refl _) (Nat.le_refl _) ⟨by simp only [letsF, b01]; simp [*], rfl⟩
    · refine r_iconst (v := 1) (n := 41) C dFR_lets_40 rfl (by decide) ?_
      refine r_goto (tgt := 45) C dFR_lets_41 (by decide) ?_
      exact r_zret C dFR_lets_45 rfl (Nat.le_refl _) (Nat.le_refl _) ⟨by simp only [letsF, b01]; simp [*], rfl⟩
  · refine r_aload_n (n := 1) C dFR_lets_0 rfl rfl ?_
    refine r_get (ci := 3) (n := 4) C hinFR rfl 2 (by decide) tw_308 rfl dFR_lets_1 rfl (by assumption) rfl ?_
    refine r_tableIn (off := 42) (tgt := 46) C dFR_lets_4 (by decide +kernel) (by decide +kernel) (by decide +kernel) (by decide) ?_
    refine r_iload_n (n := 47) C dFR_lets_46 rfl rfl ?_
    refine r_aload_n (n := 48) C dFR_lets_47 rfl rfl ?_
    refine r_get (ci := 3) (n := 51) C hinFR rfl 3 (by decide) tw_309 rfl dFR_lets_48 rfl (by assumption) rfl ?_
    refine r_icmp_ge (tgt := 58) (n := 54) C dFR_lets_51 (by decide) rfl (fun c_51 => ?_) (fun c_51 => ?_)
    · refine r_iconst (v := 0) (n := 59) C dFR_lets_58 rfl (by decide) ?_
      exact r_zret C dFR_lets_59 rfl (Nat.le_refl _) (Nat.le_refl _) ⟨by simp only [letsF, b01]; simp [*], rfl⟩
    · refine r_iconst (v := 1) (n := 55) C dFR_lets_54 rfl (by decide) ?_
      refine r_goto (tgt := 59) C dFR_lets_55 (by decide) ?_
      exact r_zret C dFR_lets_59 rfl (Nat.le_refl _) (Nat.le_refl _) ⟨by simp only [letsF, b01]; simp [*], rfl⟩
  · refine r_aload_n (n := 1) C dFR_lets_0 rfl rfl ?_
    refine r_get (ci := 3) (n := 4) C hinFR rfl 2 (by decide) tw_308 rfl dFR_lets_1 rfl (by assumption) rfl ?_
    refine r_tableIn (off := 56) (tgt := 60) C dFR_lets_4 (by decide +kernel) (by decide +kernel) (by decide +kernel) (by decide) ?_
    refine r_iload_n (n := 61) C dFR_lets_60 rfl rfl ?_
    refine r_aload_n (n := 62) C dFR_lets_61 rfl rfl ?_
    refine r_get (ci := 3) (n := 65) C hinFR rfl 3 (by decide) tw_309 rfl dFR_lets_62 rfl (by assumption) rfl ?_
    refine r_icmp_le (tgt := 72) (n := 68) C dFR_lets_65 (by decide) rfl (fun c_65 => ?_) (fun c_65 => ?_)
    · refine r_iconst (v := 0) (n := 73) C dFR_lets_72 rfl (by decide) ?_
      exact r_zret C dFR_lets_73 rfl (Nat.le_refl _) (Nat.le_refl _) ⟨by simp only [letsF, b01]; simp [*], rfl⟩
    · refine r_iconst (v := 1) (n := 69) C dFR_lets_68 rfl (by decide) ?_
      refine r_goto (tgt := 73) C dFR_lets_69 (by decide) ?_
      exact r_zret C dFR_lets_73 rfl (Nat.le_refl _) (Nat.le_refl _) ⟨by simp only [letsF, b01]; simp [*], rfl⟩
  · refine r_aload_n (n := 1) C dFR_lets_0 rfl rfl ?_
    refine r_get (ci := 3) (n := 4) C hinFR rfl 2 (by decide) tw_308 rfl dFR_lets_1 rfl (by assumption) rfl ?_
    refine r_tableOut (tgt := 74) C dFR_lets_4 (by decide +kernel) (by decide) ?_
    refine r_iload_n (n := 75) C dFR_lets_74 rfl rfl ?_
    refine r_aload_n (n := 76) C dFR_lets_75 rfl rfl ?_
    refine r_get (ci := 3) (n := 79) C hinFR rfl 3 (by decide) tw_309 rfl dFR_lets_76 rfl (by assumption) rfl ?_
    refine r_icmp_eq (tgt := 86) (n := 82) C dFR_lets_79 (by decide) rfl (fun c_79 => ?_) (fun c_79 => ?_)
    · refine r_iconst (v := 0) (n := 87) C dFR_lets_86 rfl (by decide) ?_
      exact r_zret C dFR_lets_87 rfl (Nat.le_refl _) (Nat.le_refl _) ⟨by simp only [letsF, b01]; simp [*], rfl⟩
    · refine r_iconst (v := 1) (n := 83) C dFR_lets_82 rfl (by decide) ?_
      refine r_goto (tgt := 87) C dFR_lets_83 (by decide) ?_
      exact r_zret C dFR_lets_87 rfl (Nat.le_refl _) (Nat.le_refl _) ⟨by simp only [letsF, b01]; simp [*], rfl⟩
set_option maxHeartbeats 4000000 in
set_option maxRecDepth 100000 in
/-- FilterRule.fill -/
theorem c_FR_fill (l : Launch) (o : Om) (h : AH) (s r : Nat) (S : Nat → Nat × Nat × Nat × Nat) (Ls : Nat → List Rw) (wk : Nat × Nat × Nat × Nat) (f : Nat → Int32) (g : Nat → Int64) (inp col t : Nat) (n : Int32) (hF : FP o h s S Ls wk) (hW : RA0 o h wk f g []) (hcw : wk.2.2.2 = 576) (hinp : inp < 13) (hcol : col < 3) (ht : t < 4) (hr : h r = some (.inr (3, [.int (nI inp), .int (nI col), .int (nI t), .int n]))) : Mt l o yFR_fill cFR_fill 5 none ({ frames := 4, cells := 0, slots := 0, locals := 125 } : Room) [.ref r, .ref s, .ref wk.1] h (QV o (fun h' => ∃ f' g', RA0 o h' wk f' g' (((Ls inp).foldl (FRf col t n) [])) ∧ Off wk h h')) (0) (0) := by
  refine Met.ofV (by decide) (Nat.le_of_ble_eq_true rfl) (fun K hl ho C => ?_)
  subst hl; subst ho
  obtain ⟨fs, hs, hsl⟩ := hF.1
  obtain ⟨hfi, fi, gi, hRi⟩ := hsl inp hinp
  obtain ⟨dj, hsi, hli⟩ := hF.2 inp hinp
  have hM : (Ls inp).length ≤ 24 := hli
  have loop : ∀ (m i : Nat) (h1 : AH) (f1 : Nat → Int32) (g1 : Nat → Int64), (Ls inp).length - i = m → i ≤ (Ls inp).length → RA0 (Ko K) h1 wk f1 g1 (((Ls inp).take i).foldl (FRf col t n) []) → Off wk h h1 → V K h1 0 0 (EndQ K (QV (Ko K) (fun h' => ∃ f' g', RA0 (Ko K) h' wk f' g' (((Ls inp).foldl (FRf col t n) [])) ∧ Off wk h h')) 0 0) 10 [(0, .ref r), (1, .ref s), (2, .ref wk.1), (3, .ref (S inp).1), (4, .int (nI i))] [] := by
    intro m
    induction m using Nat.strongRecOn with
    | _ m ih =>
      intro i h1 f1 g1 hm hi hR1 hO1
      have hb1 := hR1.1
      have hIn := RA0.keep hW hRi dj hO1
      have hbi := hIn.1
      have hr1 := obj_keep hW hr (by decide) hO1
      have hl1 := (gdF col t n).len (L := []) ((Ls inp).take i)
      rw [List.length_take] at hl1
      try simp only [List.length_nil] at hl1
      refine r_iload (n := 12) C dFR_fill_10 rfl rfl ?_
      refine r_aload_n (n := 13) C dFR_fill_12 rfl rfl ?_
      refine r_ci (n := 16) (rn_V (z := 0) (ci := 0) (T := TRW) C (c_RW_size (Kl K) (Ko K) h1 (S inp) fi gi (Ls inp) hIn) tw_195 tw_145 tw_146 tw_2 tw_147 rfl rfl ndRW_size ⟨Nat.le_of_ble_eq_true rfl, Nat.le_of_ble_eq_true rfl⟩ (by assumption) rfl rfl rfl (Nat.le_of_ble_eq_true rfl) dFR_fill_13 ⟨Nat.le_of_ble_eq_true rfl, Nat.le_of_ble_eq_true rfl⟩) rfl (fun x ah hq => ?_)
      obtain ⟨e1, e2⟩ := hq
      subst e1
      rw [e2]
      refine r_icmp_ge (tgt := 55) (n := 19) C dFR_fill_16 (by decide) rfl (fun c_16 => ?_) (fun c_16 => ?_)
      · have hie : i = (Ls inp).length := by have := (nI_leI (by omega) (by omega)).mp c_16; omega
        exact r_vret C dFR_fill_55 (Nat.le_refl _) (Nat.le_refl _) ⟨f1, g1, by rw [hie, List.take_length] at hR1; exact hR1, hO1⟩
      · have hlt : i < (Ls inp).length := by
          rcases Nat.lt_or_ge i (Ls inp).length with q | q
          · exact q
          · exact absurd (nI_le q (by omega)) c_16
        obtain ⟨e, he⟩ : ∃ e, (Ls inp)[i]? = some e := ⟨_, List.getElem?_eq_getElem hlt⟩
        refine r_aload_n (n := 20) C dFR_fill_19 rfl rfl ?_
        refine r_aload_n (n := 21) C dFR_fill_20 rfl rfl ?_
        refine r_iload (n := 23) C dFR_fill_21 rfl rfl ?_
        refine r_aload_n (n := 24) C dFR_fill_23 rfl rfl ?_
        refine r_get (ci := 3) (n := 27) C hinFR rfl 1 (by decide) tw_307 rfl dFR_fill_24 rfl (by assumption) rfl ?_
        refine r_ci (n := 30) (rn_V (z := 2) (ci := 0) (T := TRW) C (c_RW_valueAt (Kl K) (Ko K) h1 (S inp) fi gi (Ls inp) i col e hIn he hcol) tw_196 tw_157 tw_158 tw_2 tw_159 rfl rfl ndRW_valueAt ⟨Nat.le_of_ble_eq_true rfl, Nat.le_of_ble_eq_true rfl⟩ (by assumption) rfl rfl rfl (Nat.le_of_ble_eq_true rfl) dFR_fill_27 ⟨Nat.le_of_ble_eq_true rfl, Nat.le_of_ble_eq_true rfl⟩) rfl (fun x ah hq => ?_)
        obtain ⟨e1, e2⟩ := hq
        subst e1
        rw [e2]
        refine r_ci (n := 33) (rn_V (z := 1) (ci := 3) (T := TFR) C (c_FR_lets (Kl K) (Ko K) h1 r inp col t n (colv e.1 col) ht hr1) tw_197 tw_199 ts_6 tw_11 tw_201 rfl rfl ndFR_lets ⟨Nat.le_of_ble_eq_true rfl, Nat.le_of_ble_eq_true rfl⟩ (by assumption) rfl rfl rfl (Nat.le_of_ble_eq_true rfl) dFR_fill_30 ⟨Nat.le_of_ble_eq_true rfl, Nat.le_of_ble_eq_true rfl⟩) rfl (fun x ah hq => ?_)
        obtain ⟨e1, e2⟩ := hq
        subst e1
        rw [e2]
        refine r_if_eq (tgt := 49) (n := 36) C dFR_fill_33 (by decide) rfl (fun c_33 => ?_) (fun c_33 => ?_)
        · have hz := b01_f c_33
          refine r_iinc (n := 52) C dFR_fill_49 rfl rfl (nI_i i) (by decide) ?_
          refine r_goto (tgt := 10) C dFR_fill_52 (by decide) ?_
          refine V.byk (ls' := [(0, .ref r), (1, .ref s), (2, .ref wk.1), (3, .ref (S inp).1), (4, .int (nI (i + 1)))]) rfl ?_
          exact ih _ (by omega) (i + 1) h1 f1 g1 rfl (by omega) (by rw [fold_take (FRf col t n) _ he]; unfold FRf; rw [hz]; exact hR1) hO1
        · have hz := b01_t c_33
          refine r_aload_n (n := 37) C dFR_fill_36 rfl rfl ?_
          refine r_aload_n (n := 38) C dFR_fill_37 rfl rfl ?_
          refine r_iload (n := 40) C dFR_fill_38 rfl rfl ?_
          refine r_aload_n (n := 41) C dFR_fill_40 rfl rfl ?_
          refine r_iload (n := 43) C dFR_fill_41 rfl rfl ?_
          refine r_cl (n := 46) (rn_V (z := 1) (ci := 0) (T := TRW) C (c_RW_weightAt (Kl K) (Ko K) h1 (S inp) fi gi (Ls inp) i e hIn he) tw_202 tw_149 tw_150 tw_2 tw_151 rfl rfl ndRW_weightAt ⟨Nat.le_of_ble_eq_true rfl, Nat.le_of_ble_eq_true rfl⟩ (by assumption) rfl rfl rfl (Nat.le_of_ble_eq_true rfl) dFR_fill_43 ⟨Nat.le_of_ble_eq_true rfl, Nat.le_of_ble_eq_true rfl⟩) rfl (fun x ah hq => ?_)
          obtain ⟨e1, e2⟩ := hq
          subst e1
          rw [e2]
          refine r_cv (n := 49) (rn_V (z := 3) (ci := 0) (T := TRW) C (c_RW_addRow (Kl K) (Ko K) h1 wk f1 g1 _ (S inp) fi gi (Ls inp) i e e.2 hR1 hIn he ((gdF col t n).srt _ List.Pairwise.nil) (by omega)) tw_203 tw_153 tw_154 tw_2 tw_155 rfl rfl ndRW_addRow ⟨Nat.le_of_ble_eq_true rfl, Nat.le_of_ble_eq_true rfl⟩ hb1 rfl rfl rfl (Nat.le_of_ble_eq_true rfl) dFR_fill_46 ⟨Nat.le_of_ble_eq_true rfl, Nat.le_of_ble_eq_true rfl⟩) rfl (fun h2 hq => ?_)
          obtain ⟨f2, g2, hR2, hO2⟩ := hq
          refine r_iinc (n := 52) C dFR_fill_49 rfl rfl (nI_i i) (by decide) ?_
          refine r_goto (tgt := 10) C dFR_fill_52 (by decide) ?_
          refine V.byk (ls' := [(0, .ref r), (1, .ref s), (2, .ref wk.1), (3, .ref (S inp).1), (4, .int (nI (i + 1)))]) rfl ?_
          exact ih _ (by omega) (i + 1) h2 f2 g2 rfl (by omega) (by rw [fold_take (FRf col t n) _ he]; unfold FRf; rw [hz]; exact hR2) (hO1.tr hO2)
  refine r_aload_n (n := 1) C dFR_fill_0 rfl rfl ?_
  refine r_aload_n (n := 2) C dFR_fill_1 rfl rfl ?_
  refine r_get (ci := 3) (n := 5) C hinFR rfl 0 (by decide) tw_306 rfl dFR_fill_2 rfl (by assumption) rfl ?_
  refine r_aald (n := 6) (t0 := 2) C dFR_fill_5 rfl (by assumption) rfl inp rfl (by omega) (by omega) hfi ?_
  refine r_astore_n (n := 7) C dFR_fill_6 rfl (by decide) ?_
  refine r_iconst (v := 0) (n := 8) C dFR_fill_7 rfl (by decide) ?_
  refine r_istore (n := 10) C dFR_fill_8 rfl (by decide) ?_
  refine V.byk (ls' := [(0, .ref r), (1, .ref s), (2, .ref wk.1), (3, .ref (S inp).1), (4, .int (nI 0))]) rfl ?_
  exact loop _ 0 h f g rfl (Nat.zero_le _) hW Off.rf
set_option maxHeartbeats 4000000 in
set_option maxRecDepth 100000 in
/-- DistinctRule.fill -/
theorem c_DR_fill (l : Launch) (o : Om) (h : AH) (s r : Nat) (S : Nat → Nat × Nat × Nat × Nat) (Ls : Nat → List Rw) (wk : Nat × Nat × Nat × Nat) (f : Nat → Int32) (g : Nat → Int64) (inp : Nat) (hF : FP o h s S Ls wk) (hW : RA0 o h wk f g []) (hcw : wk.2.2.2 = 576) (hinp : inp < 13) (hr : h r = some (.inr (7, [.int (nI inp)]))) : Mt l o yDR_fill cDR_fill 5 none ({ frames := 4, cells := 0, slots := 0, locals := 125 } : Room) [.ref r, .ref s, .ref wk.1] h (QV o (fun h' => ∃ f' g', RA0 o h' wk f' g' (((Ls inp).foldl (DRf) [])) ∧ Off wk h h')) (0) (0) := by
  refine Met.ofV (by decide) (Nat.le_of_ble_eq_true rfl) (fun K hl ho C => ?_)
  subst hl; subst ho
  obtain ⟨fs, hs, hsl⟩ := hF.1
  obtain ⟨hfi, fi, gi, hRi⟩ := hsl inp hinp
  obtain ⟨dj, hsi, hli⟩ := hF.2 inp hinp
  have hM : (Ls inp).length ≤ 24 := hli
  have loop : ∀ (m i : Nat) (h1 : AH) (f1 : Nat → Int32) (g1 : Nat → Int64), (Ls inp).length - i = m → i ≤ (Ls inp).length → RA0 (Ko K) h1 wk f1 g1 (((Ls inp).take i).foldl (DRf) []) → Off wk h h1 → V K h1 0 0 (EndQ K (QV (Ko K) (fun h' => ∃ f' g', RA0 (Ko K) h' wk f' g' (((Ls inp).foldl (DRf) [])) ∧ Off wk h h')) 0 0) 10 [(0, .ref r), (1, .ref s), (2, .ref wk.1), (3, .ref (S inp).1), (4, .int (nI i))] [] := by
    intro m
    induction m using Nat.strongRecOn with
    | _ m ih =>
      intro i h1 f1 g1 hm hi hR1 hO1
      have hb1 := hR1.1
      have hIn := RA0.keep hW hRi dj hO1
      have hbi := hIn.1
      have hr1 := obj_keep hW hr (by decide) hO1
      have hl1 := gdD.len (L := []) ((Ls inp).take i)
      rw [List.length_take] at hl1
      try simp only [List.length_nil] at hl1
      refine r_iload (n := 12) C dDR_fill_10 rfl rfl ?_
      refine r_aload_n (n := 13) C dDR_fill_12 rfl rfl ?_
      refine r_ci (n := 16) (rn_V (z := 0) (ci := 0) (T := TRW) C (c_RW_size (Kl K) (Ko K) h1 (S inp) fi gi (Ls inp) hIn) tw_186 tw_145 tw_146 tw_2 tw_147 rfl rfl ndRW_size ⟨Nat.le_of_ble_eq_true rfl, Nat.le_of_ble_eq_true rfl⟩ (by assumption) rfl rfl rfl (Nat.le_of_ble_eq_true rfl) dDR_fill_13 ⟨Nat.le_of_ble_eq_true rfl, Nat.le_of_ble_eq_true rfl⟩) rfl (fun x ah hq => ?_)
      obtain ⟨e1, e2⟩ := hq
      subst e1
      rw [e2]
      refine r_icmp_ge (tgt := 44) (n := 19) C dDR_fill_16 (by decide) rfl (fun c_16 => ?_) (fun c_16 => ?_)
      · have hie : i = (Ls inp).length := by have := (nI_leI (by omega) (by omega)).mp c_16; omega
        exact r_vret C dDR_fill_44 (Nat.le_refl _) (Nat.le_refl _) ⟨f1, g1, by rw [hie, List.take_length] at hR1; exact hR1, hO1⟩
      · have hlt : i < (Ls inp).length := by
          rcases Nat.lt_or_ge i (Ls inp).length with q | q
          · exact q
          · exact absurd (nI_le q (by omega)) c_16
        obtain ⟨e, he⟩ : ∃ e, (Ls inp)[i]? = some e := ⟨_, List.getElem?_eq_getElem hlt⟩
        refine r_aload_n (n := 20) C dDR_fill_19 rfl rfl ?_
        refine r_iload (n := 22) C dDR_fill_20 rfl rfl ?_
        refine r_cl (n := 25) (rn_V (z := 1) (ci := 0) (T := TRW) C (c_RW_weightAt (Kl K) (Ko K) h1 (S inp) fi gi (Ls inp) i e hIn he) tw_187 tw_149 tw_150 tw_2 tw_151 rfl rfl ndRW_weightAt ⟨Nat.le_of_ble_eq_true rfl, Nat.le_of_ble_eq_true rfl⟩ (by assumption) rfl rfl rfl (Nat.le_of_ble_eq_true rfl) dDR_fill_22 ⟨Nat.le_of_ble_eq_true rfl, Nat.le_of_ble_eq_true rfl⟩) rfl (fun x ah hq => ?_)
        obtain ⟨e1, e2⟩ := hq
        subst e1
        rw [e2]
        refine r_lconst (v := 0) (n := 26) C dDR_fill_25 rfl (by decide) ?_
        refine r_lcmp (n := 27) C dDR_fill_26 rfl ?_
        refine r_if_le (tgt := 38) (n := 30) C dDR_fill_27 (by decide) rfl (fun c_27 => ?_) (fun c_27 => ?_)
        · have hz : ¬ 0 < e.2 := Int64.not_lt.mpr ((lg_cmp_le _ _).mp c_27)
          refine r_iinc (n := 41) C dDR_fill_38 rfl rfl (nI_i i) (by decide) ?_
          refine r_goto (tgt := 10) C dDR_fill_41 (by decide) ?_
          refine V.byk (ls' := [(0, .ref r), (1, .ref s), (2, .ref wk.1), (3, .ref (S inp).1), (4, .int (nI (i + 1)))]) rfl ?_
          exact ih _ (by omega) (i + 1) h1 f1 g1 rfl (by omega) (by rw [fold_take (DRf) _ he]; unfold DRf; rw [if_neg hz]; exact hR1) hO1
        · have hz : 0 < e.2 := Int64.not_le.mp (fun q => c_27 ((lg_cmp_le _ _).mpr q))
          refine r_aload_n (n := 31) C dDR_fill_30 rfl rfl ?_
          refine r_aload_n (n := 32) C dDR_fill_31 rfl rfl ?_
          refine r_iload (n := 34) C dDR_fill_32 rfl rfl ?_
          refine r_lconst (v := 1) (n := 35) C dDR_fill_34 rfl (by decide) ?_
          refine r_cv (n := 38) (rn_V (z := 3) (ci := 0) (T := TRW) C (c_RW_addRow (Kl K) (Ko K) h1 wk f1 g1 _ (S inp) fi gi (Ls inp) i e 1 hR1 hIn he (gdD.srt _ List.Pairwise.nil) (by omega)) tw_188 tw_153 tw_154 tw_2 tw_155 rfl rfl ndRW_addRow ⟨Nat.le_of_ble_eq_true rfl, Nat.le_of_ble_eq_true rfl⟩ hb1 rfl rfl rfl (Nat.le_of_ble_eq_true rfl) dDR_fill_35 ⟨Nat.le_of_ble_eq_true rfl, Nat.le_of_ble_eq_true rfl⟩) rfl (fun h2 hq => ?_)
          obtain ⟨f2, g2, hR2, hO2⟩ := hq
          refine r_iinc (n := 41) C dDR_fill_38 rfl rfl (nI_i i) (by decide) ?_
          refine r_goto (tgt := 10) C dDR_fill_41 (by decide) ?_
          refine V.byk (ls' := [(0, .ref r), (1, .ref s), (2, .ref wk.1), (3, .ref (S inp).1), (4, .int (nI (i + 1)))]) rfl ?_
          exact ih _ (by omega) (i + 1) h2 f2 g2 rfl (by omega) (by rw [fold_take (DRf) _ he]; unfold DRf; rw [if_pos hz]; exact hR2) (hO1.tr hO2)
  refine r_aload_n (n := 1) C dDR_fill_0 rfl rfl ?_
  refine r_aload_n (n := 2) C dDR_fill_1 rfl rfl ?_
  refine r_get (ci := 7) (n := 5) C hinDR rfl 0 (by decide) tw_398 rfl dDR_fill_2 rfl (by assumption) rfl ?_
  refine r_aald (n := 6) (t0 := 2) C dDR_fill_5 rfl (by assumption) rfl inp rfl (by omega) (by omega) hfi ?_
  refine r_astore_n (n := 7) C dDR_fill_6 rfl (by decide) ?_
  refine r_iconst (v := 0) (n := 8) C dDR_fill_7 rfl (by decide) ?_
  refine r_istore (n := 10) C dDR_fill_8 rfl (by decide) ?_
  refine V.byk (ls' := [(0, .ref r), (1, .ref s), (2, .ref wk.1), (3, .ref (S inp).1), (4, .int (nI 0))]) rfl ?_
  exact loop _ 0 h f g rfl (Nat.zero_le _) hW Off.rf
set_option maxHeartbeats 4000000 in
set_option maxRecDepth 100000 in
/-- MapRule.coded -/
theorem c_MR_coded (l : Launch) (o : Om) (h : AH) (A : Nat × Nat × Nat × Nat) (f : Nat → Int32) (g : Nat → Int64) (L : List Rw) (i c : Nat) (e : Rw) (hR : RA0 o h A f g L) (he : L[i]? = some e) (hc : c < 6) : Mt l o yMR_coded cMR_coded 3 (some .int) ({ frames := 1, cells := 0, slots := 0, locals := 22 } : Room) [.ref A.1, .int (nI i), .int (nI c)] h (QI o (fun x h' => x = codeF c e.1 ∧ h' = h)) (0) (0) := by
  refine Met.ofV (by decide) (Nat.le_of_ble_eq_true rfl) (fun K hl ho C => ?_)
  subst hl; subst ho
  have hb := hR.1
  rcases (show c = 0 ∨ c = 1 ∨ c = 2 ∨ c = 3 ∨ c = 4 ∨ c = 5 by omega) with e0 | e0 | e0 | e0 | e0 | e0 <;> subst e0
  · refine r_iload_n (n := 1) C dMR_coded_0 rfl rfl ?_
    refine r_tableOut (tgt := 58) C dMR_coded_1 (by decide +kernel) (by decide) ?_
    refine r_aload_n (n := 59) C dMR_coded_58 rfl rfl ?_
    refine r_iload_n (n := 60) C dMR_coded_59 rfl rfl ?_
    refine r_iload_n (n := 61) C dMR_coded_60 rfl rfl ?_
    refine r_ci (n := 64) (rn_V (z := 2) (ci := 0) (T := TRW) C (c_RW_valueAt (Kl K) (Ko K) h A f g L i 0 e hR he (by decide)) tw_262 tw_157 tw_158 tw_2 tw_159 rfl rfl ndRW_valueAt ⟨Nat.le_of_ble_eq_true rfl, Nat.le_of_ble_eq_true rfl⟩ (by assumption) rfl rfl rfl (Nat.le_of_ble_eq_true rfl) dMR_coded_61 ⟨Nat.le_of_ble_eq_true rfl, Nat.le_of_ble_eq_true rfl⟩) rfl (fun x ah hq => ?_)
    obtain ⟨e1, e2⟩ := hq
    subst e1
    rw [e2]
    exact r_iret C dMR_coded_64 (Nat.le_refl _) (Nat.le_refl _) ⟨rfl, rfl⟩
  · refine r_iload_n (n := 1) C dMR_coded_0 rfl rfl ?_
    refine r_tableOut (tgt := 58) C dMR_coded_1 (by decide +kernel) (by decide) ?_
    refine r_aload_n (n := 59) C dMR_coded_58 rfl rfl ?_
    refine r_iload_n (n := 60) C dMR_coded_59 rfl rfl ?_
    refine r_iload_n (n := 61) C dMR_coded_60 rfl rfl ?_
    refine r_ci (n := 64) (rn_V (z := 2) (ci := 0) (T := TRW) C (c_RW_valueAt (Kl K) (Ko K) h A f g L i 1 e hR he (by decide)) tw_262 tw_157 tw_158 tw_2 tw_159 rfl rfl ndRW_valueAt ⟨Nat.le_of_ble_eq_true rfl, Nat.le_of_ble_eq_true rfl⟩ (by assumption) rfl rfl rfl (Nat.le_of_ble_eq_true rfl) dMR_coded_61 ⟨Nat.le_of_ble_eq_true rfl, Nat.le_of_ble_eq_true rfl⟩) rfl (fun x ah hq => ?_)
    obtain ⟨e1, e2⟩ := hq
    subst e1
    rw [e2]
    exact r_iret C dMR_coded_64 (Nat.le_refl _) (Nat.le_refl _) ⟨rfl, rfl⟩
  · refine r_iload_n (n := 1) C dMR_coded_0 rfl rfl ?_
    refine r_tableOut (tgt := 58) C dMR_coded_1 (by decide +kernel) (by decide) ?_
    refine r_aload_n (n := 59) C dMR_coded_58 rfl rfl ?_
    refine r_iload_n (n := 60) C dMR_coded_59 rfl rfl ?_
    refine r_iload_n (n := 61) C dMR_coded_60 rfl rfl ?_
    refine r_ci (n := 64) (rn_V (z := 2) (ci := 0) (T := TRW) C (c_RW_valueAt (Kl K) (Ko K) h A f g L i 2 e hR he (by decide)) tw_262 tw_157 tw_158 tw_2 tw_159 rfl rfl ndRW_valueAt ⟨Nat.le_of_ble_eq_true rfl, Nat.le_of_ble_eq_true rfl⟩ (by assumption) rfl rfl rfl (Nat.le_of_ble_eq_true rfl) dMR_coded_61 ⟨Nat.le_of_ble_eq_true rfl, Nat.le_of_ble_eq_true rfl⟩) rfl (fun x ah hq => ?_)
    obtain ⟨e1, e2⟩ := hq
    subst e1
    rw [e2]
    exact r_iret C dMR_coded_64 (Nat.le_refl _) (Nat.le_refl _) ⟨rfl, rfl⟩
  · refine r_iload_n (n := 1) C dMR_coded_0 rfl rfl ?_
    refine r_tableIn (off := 27) (tgt := 28) C dMR_coded_1 (by decide +kernel) (by decide +kernel) (by decide +kernel) (by decide) ?_
    refine r_iconst (v := 0) (n := 29) C dMR_coded_28 rfl (by decide) ?_
    exact r_iret C dMR_coded_29 (Nat.le_refl _) (Nat.le_refl _) ⟨rfl, rfl⟩
  · refine r_iload_n (n := 1) C dMR_coded_0 rfl rfl ?_
    refine r_tableIn (off := 29) (tgt := 30) C dMR_coded_1 (by decide +kernel) (by decide +kernel) (by decide +kernel) (by decide) ?_
    refine r_aload_n (n := 31) C dMR_coded_30 rfl rfl ?_
    refine r_iload_n (n := 32) C dMR_coded_31 rfl rfl ?_
    refine r_iconst (v := 0) (n := 33) C dMR_coded_32 rfl (by decide) ?_
    refine r_ci (n := 36) (rn_V (z := 2) (ci := 0) (T := TRW) C (c_RW_valueAt (Kl K) (Ko K) h A f g L i 0 e hR he (by decide)) tw_262 tw_157 tw_158 tw_2 tw_159 rfl rfl ndRW_valueAt ⟨Nat.le_of_ble_eq_true rfl, Nat.le_of_ble_eq_true rfl⟩ (by assumption) rfl rfl rfl (Nat.le_of_ble_eq_true rfl) dMR_coded_33 ⟨Nat.le_of_ble_eq_true rfl, Nat.le_of_ble_eq_true rfl⟩) rfl (fun x ah hq => ?_)
    obtain ⟨e1, e2⟩ := hq
    subst e1
    rw [e2]
    refine r_aload_n (n := 37) C dMR_coded_36 rfl rfl ?_
    refine r_iload_n (n := 38) C dMR_coded_37 rfl rfl ?_
    refine r_iconst (v := 1) (n := 39) C dMR_coded_38 rfl (by decide) ?_
    refine r_ci (n := 42) (rn_V (z := 2) (ci := 0) (T := TRW) C (c_RW_valueAt (Kl K) (Ko K) h A f g L i 1 e hR he (by decide)) tw_262 tw_157 tw_158 tw_2 tw_159 rfl rfl ndRW_valueAt ⟨Nat.le_of_ble_eq_true rfl, Nat.le_of_ble_eq_true rfl⟩ (by assumption) rfl rfl rfl (Nat.le_of_ble_eq_true rfl) dMR_coded_39 ⟨Nat.le_of_ble_eq_true rfl, Nat.le_of_ble_eq_true rfl⟩) rfl (fun x ah hq => ?_)
    obtain ⟨e1, e2⟩ := hq
    subst e1
    rw [e2]
    refine r_iadd (n := 43) C dMR_coded_42 rfl ?_
    exact r_iret C dMR_coded_43 (Nat.le_refl _) (Nat.le_refl _) ⟨rfl, rfl⟩
  · refine r_iload_n (n := 1) C dMR_coded_0 rfl rfl ?_
    refine r_tableIn (off := 43) (tgt := 44) C dMR_coded_1 (by decide +kernel) (by decide +kernel) (by decide +kernel) (by decide) ?_
    refine r_aload_n (n := 45) C dMR_coded_44 rfl rfl ?_
    refine r_iload_n (n := 46) C dMR_coded_45 rfl rfl ?_
    refine r_iconst (v := 0) (n := 47) C dMR_coded_46 rfl (by decide) ?_
    refine r_ci (n := 50) (rn_V (z := 2) (ci := 0) (T := TRW) C (c_RW_valueAt (Kl K) (Ko K) h A f g L i 0 e hR he (by decide)) tw_262 tw_157 tw_158 tw_2 tw_159 rfl rfl ndRW_valueAt ⟨Nat.le_of_ble_eq_true rfl, Nat.le_of_ble_eq_true rfl⟩ (by assumption) rfl rfl rfl (Nat.le_of_ble_eq_true rfl) dMR_coded_47 ⟨Nat.le_of_ble_eq_true rfl, Nat.le_of_ble_eq_true rfl⟩) rfl (fun x ah hq => ?_)
    obtain ⟨e1, e2⟩ := hq
    subst e1
    rw [e2]
    refine r_aload_n (n := 51) C dMR_coded_50 rfl rfl ?_
    refine r_iload_n (n := 52) C dMR_coded_51 rfl rfl ?_
    refine r_iconst (v := 1) (n := 53) C dMR_coded_52 rfl (by decide) ?_
    refine r_ci (n := 56) (rn_V (z := 2) (ci := 0) (T := TRW) C (c_RW_valueAt (Kl K) (Ko K) h A f g L i 1 e hR he (by decide)) tw_262 tw_157 tw_158 tw_2 tw_159 rfl rfl ndRW_valueAt ⟨Nat.le_of_ble_eq_true rfl, Nat.le_of_ble_eq_true rfl⟩ (by assumption) rfl rfl rfl (Nat.le_of_ble_eq_true rfl) dMR_coded_53 ⟨Nat.le_of_ble_eq_true rfl, Nat.le_of_ble_eq_true rfl⟩) rfl (fun x ah hq => ?_)
    obtain ⟨e1, e2⟩ := hq
    subst e1
    rw [e2]
    refine r_isub (n := 57) C dMR_coded_56 rfl ?_
    exact r_iret C dMR_coded_57 (Nat.le_refl _) (Nat.le_refl _) ⟨rfl, rfl⟩
set_option maxHeartbeats 4000000 in
set_option maxRecDepth 100000 in
/-- MapRule.fill -/
theorem c_MR_fill (l : Launch) (o : Om) (h : AH) (s r : Nat) (S : Nat → Nat × Nat × Nat × Nat) (Ls : Nat → List Rw) (wk : Nat × Nat × Nat × Nat) (f : Nat → Int32) (g : Nat → Int64) (inp x y z : Nat) (hF : FP o h s S Ls wk) (hW : RA0 o h wk f g []) (hcw : wk.2.2.2 = 576) (hinp : inp < 13) (hx : x < 6) (hy : y < 6) (hz : z < 6) (hr : h r = some (.inr (4, [.int (nI inp), .int (nI x), .int (nI y), .int (nI z)]))) : Mt l o yMR_fill cMR_fill 5 none ({ frames := 3, cells := 0, slots := 0, locals := 101 } : Room) [.ref r, .ref s, .ref wk.1] h (QV o (fun h' => ∃ f' g', RA0 o h' wk f' g' (((Ls inp).foldl (MRf x y z) [])) ∧ Off wk h h')) (0) (0) := by
  refine Met.ofV (by decide) (Nat.le_of_ble_eq_true rfl) (fun K hl ho C => ?_)
  subst hl; subst ho
  obtain ⟨fs, hs, hsl⟩ := hF.1
  obtain ⟨hfi, fi, gi, hRi⟩ := hsl inp hinp
  obtain ⟨dj, hsi, hli⟩ := hF.2 inp hinp
  have hM : (Ls inp).length ≤ 24 := hli
  have loop : ∀ (m i : Nat) (h1 : AH) (f1 : Nat → Int32) (g1 : Nat → Int64), (Ls inp).length - i = m → i ≤ (Ls inp).length → RA0 (Ko K) h1 wk f1 g1 (((Ls inp).take i).foldl (MRf x y z) []) → Off wk h h1 → V K h1 0 0 (EndQ K (QV (Ko K) (fun h' => ∃ f' g', RA0 (Ko K) h' wk f' g' (((Ls inp).foldl (MRf x y z) [])) ∧ Off wk h h')) 0 0) 10 [(0, .ref r), (1, .ref s), (2, .ref wk.1), (3, .ref (S inp).1), (4, .int (nI i))] [] := by
    intro m
    induction m using Nat.strongRecOn with
    | _ m ih =>
      intro i h1 f1 g1 hm hi hR1 hO1
      have hb1 := hR1.1
      have hIn := RA0.keep hW hRi dj hO1
      have hbi := hIn.1
      have hr1 := obj_keep hW hr (by decide) hO1
      have hl1 := (gdM x y z).len (L := []) ((Ls inp).take i)
      rw [List.length_take] at hl1
      try simp only [List.length_nil] at hl1
      refine r_iload (n := 12) C dMR_fill_10 rfl rfl ?_
      refine r_aload_n (n := 13) C dMR_fill_12 rfl rfl ?_
      refine r_ci (n := 16) (rn_V (z := 0) (ci := 0) (T := TRW) C (c_RW_size (Kl K) (Ko K) h1 (S inp) fi gi (Ls inp) hIn) tw_258 tw_145 tw_146 tw_2 tw_147 rfl rfl ndRW_size ⟨Nat.le_of_ble_eq_true rfl, Nat.le_of_ble_eq_true rfl⟩ (by assumption) rfl rfl rfl (Nat.le_of_ble_eq_true rfl) dMR_fill_13 ⟨Nat.le_of_ble_eq_true rfl, Nat.le_of_ble_eq_true rfl⟩) rfl (fun x ah hq => ?_)
      obtain ⟨e1, e2⟩ := hq
      subst e1
      rw [e2]
      refine r_icmp_ge (tgt := 65) (n := 19) C dMR_fill_16 (by decide) rfl (fun c_16 => ?_) (fun c_16 => ?_)
      · have hie : i = (Ls inp).length := by have := (nI_leI (by omega) (by omega)).mp c_16; omega
        exact r_vret C dMR_fill_65 (Nat.le_refl _) (Nat.le_refl _) ⟨f1, g1, by rw [hie, List.take_length] at hR1; exact hR1, hO1⟩
      · have hlt : i < (Ls inp).length := by
          rcases Nat.lt_or_ge i (Ls inp).length with q | q
          · exact q
          · exact absurd (nI_le q (by omega)) c_16
        obtain ⟨e, he⟩ : ∃ e, (Ls inp)[i]? = some e := ⟨_, List.getElem?_eq_getElem hlt⟩
        refine r_aload_n (n := 20) C dMR_fill_19 rfl rfl ?_
        refine r_aload_n (n := 21) C dMR_fill_20 rfl rfl ?_
        refine r_iload (n := 23) C dMR_fill_21 rfl rfl ?_
        refine r_aload_n (n := 24) C dMR_fill_23 rfl rfl ?_
        refine r_get (ci := 4) (n := 27) C hinMR rfl 1 (by decide) tw_330 rfl dMR_fill_24 rfl (by assumption) rfl ?_
        refine r_ci (n := 30) (rn_S (z := 3) C (c_MR_coded (Kl K) (Ko K) h1 (S inp) fi gi (Ls inp) i x e hIn he hx) tw_259 tw_260 tw_10 tw_261 rfl rfl ndMR_coded.2 ⟨Nat.le_of_ble_eq_true rfl, Nat.le_of_ble_eq_true rfl⟩ rfl rfl (Nat.le_of_ble_eq_true rfl) dMR_fill_27 ⟨Nat.le_of_ble_eq_true rfl, Nat.le_of_ble_eq_true rfl⟩) rfl (fun v ah hq => ?_)
        obtain ⟨e1, e2⟩ := hq
        subst e1
        rw [e2]
        refine r_aload_n (n := 31) C dMR_fill_30 rfl rfl ?_
        refine r_iload (n := 33) C dMR_fill_31 rfl rfl ?_
        refine r_aload_n (n := 34) C dMR_fill_33 rfl rfl ?_
        refine r_get (ci := 4) (n := 37) C hinMR rfl 2 (by decide) tw_331 rfl dMR_fill_34 rfl (by assumption) rfl ?_
        refine r_ci (n := 40) (rn_S (z := 3) C (c_MR_coded (Kl K) (Ko K) h1 (S inp) fi gi (Ls inp) i y e hIn he hy) tw_259 tw_260 tw_10 tw_261 rfl rfl ndMR_coded.2 ⟨Nat.le_of_ble_eq_true rfl, Nat.le_of_ble_eq_true rfl⟩ rfl rfl (Nat.le_of_ble_eq_true rfl) dMR_fill_37 ⟨Nat.le_of_ble_eq_true rfl, Nat.le_of_ble_eq_true rfl⟩) rfl (fun v ah hq => ?_)
        obtain ⟨e1, e2⟩ := hq
        subst e1
        rw [e2]
        refine r_aload_n (n := 41) C dMR_fill_40 rfl rfl ?_
        refine r_iload (n := 43) C dMR_fill_41 rfl rfl ?_
        refine r_aload_n (n := 44) C dMR_fill_43 rfl rfl ?_
        refine r_get (ci := 4) (n := 47) C hinMR rfl 3 (by decide) tw_332 rfl dMR_fill_44 rfl (by assumption) rfl ?_
        refine r_ci (n := 50) (rn_S (z := 3) C (c_MR_coded (Kl K) (Ko K) h1 (S inp) fi gi (Ls inp) i z e hIn he hz) tw_259 tw_260 tw_10 tw_261 rfl rfl ndMR_coded.2 ⟨Nat.le_of_ble_eq_true rfl, Nat.le_of_ble_eq_true rfl⟩ rfl rfl (Nat.le_of_ble_eq_true rfl) dMR_fill_47 ⟨Nat.le_of_ble_eq_true rfl, Nat.le_of_ble_eq_true rfl⟩) rfl (fun v ah hq => ?_)
        obtain ⟨e1, e2⟩ := hq
        subst e1
        rw [e2]
        refine r_aload_n (n := 51) C dMR_fill_50 rfl rfl ?_
        refine r_iload (n := 53) C dMR_fill_51 rfl rfl ?_
        refine r_cl (n := 56) (rn_V (z := 1) (ci := 0) (T := TRW) C (c_RW_weightAt (Kl K) (Ko K) h1 (S inp) fi gi (Ls inp) i e hIn he) tw_263 tw_149 tw_150 tw_2 tw_151 rfl rfl ndRW_weightAt ⟨Nat.le_of_ble_eq_true rfl, Nat.le_of_ble_eq_true rfl⟩ (by assumption) rfl rfl rfl (Nat.le_of_ble_eq_true rfl) dMR_fill_53 ⟨Nat.le_of_ble_eq_true rfl, Nat.le_of_ble_eq_true rfl⟩) rfl (fun x ah hq => ?_)
        obtain ⟨e1, e2⟩ := hq
        subst e1
        rw [e2]
        refine r_cv (n := 59) (rn_V (z := 4) (ci := 0) (T := TRW) C (c_RW_addWeight (Kl K) (Ko K) h1 wk f1 g1 _ (codeF x e.1) (codeF y e.1) (codeF z e.1) e.2 hR1 ((gdM x y z).srt _ List.Pairwise.nil) (by omega)) tw_264 tw_161 tw_162 tw_2 tw_163 rfl rfl ndRW_addWeight ⟨Nat.le_of_ble_eq_true rfl, Nat.le_of_ble_eq_true rfl⟩ hb1 rfl rfl rfl (Nat.le_of_ble_eq_true rfl) dMR_fill_56 ⟨Nat.le_of_ble_eq_true rfl, Nat.le_of_ble_eq_true rfl⟩) rfl (fun h2 hq => ?_)
        obtain ⟨f2, g2, hR2, hO2⟩ := hq
        refine r_iinc (n := 62) C dMR_fill_59 rfl rfl (nI_i i) (by decide) ?_
        refine r_goto (tgt := 10) C dMR_fill_62 (by decide) ?_
        refine V.byk (ls' := [(0, .ref r), (1, .ref s), (2, .ref wk.1), (3, .ref (S inp).1), (4, .int (nI (i + 1)))]) rfl ?_
        exact ih _ (by omega) (i + 1) h2 f2 g2 rfl (by omega) (by rw [fold_take (MRf x y z) _ he]; exact hR2) (hO1.tr hO2)
  refine r_aload_n (n := 1) C dMR_fill_0 rfl rfl ?_
  refine r_aload_n (n := 2) C dMR_fill_1 rfl rfl ?_
  refine r_get (ci := 4) (n := 5) C hinMR rfl 0 (by decide) tw_329 rfl dMR_fill_2 rfl (by assumption) rfl ?_
  refine r_aald (n := 6) (t0 := 2) C dMR_fill_5 rfl (by assumption) rfl inp rfl (by omega) (by omega) hfi ?_
  refine r_astore_n (n := 7) C dMR_fill_6 rfl (by decide) ?_
  refine r_iconst (v := 0) (n := 8) C dMR_fill_7 rfl (by decide) ?_
  refine r_istore (n := 10) C dMR_fill_8 rfl (by decide) ?_
  refine V.byk (ls' := [(0, .ref r), (1, .ref s), (2, .ref wk.1), (3, .ref (S inp).1), (4, .int (nI 0))]) rfl ?_
  exact loop _ 0 h f g rfl (Nat.zero_le _) hW Off.rf
end
section
/-! RULES: combination, join, group -/
def sgF (kd : Nat) : Int64 := if kd = 0 then 1 else -1
set_option maxHeartbeats 4000000 in
set_option maxRecDepth 100000 in
/-- CombineRule.fill -/
theorem c_CR_fill (l : Launch) (o : Om) (h : AH) (s r : Nat) (S : Nat → Nat × Nat × Nat × Nat) (Ls : Nat → List Rw) (wk : Nat × Nat × Nat × Nat) (f : Nat → Int32) (g : Nat → Int64) (lf rt kd : Nat) (hF : FP o h s S Ls wk) (hW : RA0 o h wk f g []) (hcw : wk.2.2.2 = 576) (hlf : lf < 13) (hrt : rt < 13) (hkd0 : kd < 2) (hr : h r = some (.inr (6, [.int (nI lf), .int (nI rt), .int (nI kd)]))) : Mt l o yCR_fill cCR_fill 7 none ({ frames := 4, cells := 0, slots := 0, locals := 125 } : Room) [.ref r, .ref s, .ref wk.1] h (QV o (fun h' => ∃ f' g', RA0 o h' wk f' g' (((Ls rt).foldl (CRf (sgF kd)) (Ls lf))) ∧ Off wk h h')) (0) (0) := by
  refine Met.ofV (by decide) (Nat.le_of_ble_eq_true rfl) (fun K hl ho C => ?_)
  subst hl; subst ho
  obtain ⟨fsl, hsl, hsll⟩ := hF.1
  obtain ⟨hfil, fil, gil, hRil⟩ := hsll lf hlf
  obtain ⟨djl, hsil, hlil⟩ := hF.2 lf hlf
  obtain ⟨fsr, hsr, hslr⟩ := hF.1
  obtain ⟨hfir, fir, gir, hRir⟩ := hslr rt hrt
  obtain ⟨djr, hsir, hlir⟩ := hF.2 rt hrt
  have hM : (Ls rt).length ≤ 24 := hlir
  have loop : ∀ (m i : Nat) (h1 : AH) (f1 : Nat → Int32) (g1 : Nat → Int64), (Ls rt).length - i = m → i ≤ (Ls rt).length → RA0 (Ko K) h1 wk f1 g1 (((Ls rt).take i).foldl (CRf (sgF kd)) (Ls lf)) → Off wk h h1 → V K h1 0 0 (EndQ K (QV (Ko K) (fun h' => ∃ f' g', RA0 (Ko K) h' wk f' g' (((Ls rt).foldl (CRf (sgF kd)) (Ls lf))) ∧ Off wk h h')) 0 0) 36 [(0, .ref r), (1, .ref s), (2, .ref wk.1), (3, .ref (S rt).1), (4, .long (sgF kd)), (6, .int (nI i))] [] := by
    intro m
    induction m using Nat.strongRecOn with
    | _ m ih =>
      intro i h1 f1 g1 hm hi hR1 hO1
      have hb1 := hR1.1
      have hIn := RA0.keep hW hRir djr hO1
      have hbi := hIn.1
      have hr1 := obj_keep hW hr (by decide) hO1
      have hl1 := (gdC (sgF kd)).len (L := (Ls lf)) ((Ls rt).take i)
      rw [List.length_take] at hl1
      try simp only [List.length_nil] at hl1
      refine r_iload (n := 38) C dCR_fill_36 rfl rfl ?_
      refine r_aload_n (n := 39) C dCR_fill_38 rfl rfl ?_
      refine r_ci (n := 42) (rn_V (z := 0) (ci := 0) (T := TRW) C (c_RW_size (Kl K) (Ko K) h1 (S rt) fir gir (Ls rt) hIn) tw_144 tw_145 tw_146 tw_2 tw_147 rfl rfl ndRW_size ⟨Nat.le_of_ble_eq_true rfl, Nat.le_of_ble_eq_true rfl⟩ (by assumption) rfl rfl rfl (Nat.le_of_ble_eq_true rfl) dCR_fill_39 ⟨Nat.le_of_ble_eq_true rfl, Nat.le_of_ble_eq_true rfl⟩) rfl (fun x ah hq => ?_)
      obtain ⟨e1, e2⟩ := hq
      subst e1
      rw [e2]
      refine r_icmp_ge (tgt := 67) (n := 45) C dCR_fill_42 (by decide) rfl (fun c_42 => ?_) (fun c_42 => ?_)
      · have hie : i = (Ls rt).length := by have := (nI_leI (by omega) (by omega)).mp c_42; omega
        exact r_vret C dCR_fill_67 (Nat.le_refl _) (Nat.le_refl _) ⟨f1, g1, by rw [hie, List.take_length] at hR1; exact hR1, hO1⟩
      · have hlt : i < (Ls rt).length := by
          rcases Nat.lt_or_ge i (Ls rt).length with q | q
          · exact q
          · exact absurd (nI_le q (by omega)) c_42
        obtain ⟨e, he⟩ : ∃ e, (Ls rt)[i]? = some e := ⟨_, List.getElem?_eq_getElem hlt⟩
        refine r_aload_n (n := 46) C dCR_fill_45 rfl rfl ?_
        refine r_aload_n (n := 47) C dCR_fill_46 rfl rfl ?_
        refine r_iload (n := 49) C dCR_fill_47 rfl rfl ?_
        refine r_lload (n := 51) C dCR_fill_49 rfl rfl ?_
        refine r_aload_n (n := 52) C dCR_fill_51 rfl rfl ?_
        refine r_iload (n := 54) C dCR_fill_52 rfl rfl ?_
        refine r_cl (n := 57) (rn_V (z := 1) (ci := 0) (T := TRW) C (c_RW_weightAt (Kl K) (Ko K) h1 (S rt) fir gir (Ls rt) i e hIn he) tw_148 tw_149 tw_150 tw_2 tw_151 rfl rfl ndRW_weightAt ⟨Nat.le_of_ble_eq_true rfl, Nat.le_of_ble_eq_true rfl⟩ (by assumption) rfl rfl rfl (Nat.le_of_ble_eq_true rfl) dCR_fill_54 ⟨Nat.le_of_ble_eq_true rfl, Nat.le_of_ble_eq_true rfl⟩) rfl (fun x ah hq => ?_)
        obtain ⟨e1, e2⟩ := hq
        subst e1
        rw [e2]
        refine r_lmul (n := 58) C dCR_fill_57 rfl ?_
        refine r_cv (n := 61) (rn_V (z := 3) (ci := 0) (T := TRW) C (c_RW_addRow (Kl K) (Ko K) h1 wk f1 g1 _ (S rt) fir gir (Ls rt) i e (sgF kd * e.2) hR1 hIn he ((gdC (sgF kd)).srt _ hsil) (by omega)) tw_152 tw_153 tw_154 tw_2 tw_155 rfl rfl ndRW_addRow ⟨Nat.le_of_ble_eq_true rfl, Nat.le_of_ble_eq_true rfl⟩ hb1 rfl rfl rfl (Nat.le_of_ble_eq_true rfl) dCR_fill_58 ⟨Nat.le_of_ble_eq_true rfl, Nat.le_of_ble_eq_true rfl⟩) rfl (fun h2 hq => ?_)
        obtain ⟨f2, g2, hR2, hO2⟩ := hq
        refine r_iinc (n := 64) C dCR_fill_61 rfl rfl (nI_i i) (by decide) ?_
        refine r_goto (tgt := 36) C dCR_fill_64 (by decide) ?_
        refine V.byk (ls' := [(0, .ref r), (1, .ref s), (2, .ref wk.1), (3, .ref (S rt).1), (4, .long (sgF kd)), (6, .int (nI (i + 1)))]) rfl ?_
        exact ih _ (by omega) (i + 1) h2 f2 g2 rfl (by omega) (by rw [fold_take (CRf (sgF kd)) _ he]; exact hR2) (hO1.tr hO2)
  refine r_aload_n (n := 1) C dCR_fill_0 rfl rfl ?_
  refine r_aload_n (n := 2) C dCR_fill_1 rfl rfl ?_
  refine r_aload_n (n := 3) C dCR_fill_2 rfl rfl ?_
  refine r_get (ci := 6) (n := 6) C hinCR rfl 0 (by decide) tw_378 rfl dCR_fill_3 rfl (by assumption) rfl ?_
  refine r_aald (n := 7) (t0 := 2) C dCR_fill_6 rfl (by assumption) rfl lf rfl (by omega) (by omega) hfil ?_
  refine r_cv (n := 10) (rn_V (z := 1) (ci := 0) (T := TRW) C (c_RW_copyFrom (Kl K) (Ko K) h wk f g [] (S lf) fil gil (Ls lf) hW hRil djl (by omega)) tw_133 tw_134 tw_135 tw_2 tw_136 rfl rfl ndRW_copyFrom ⟨Nat.le_of_ble_eq_true rfl, Nat.le_of_ble_eq_true rfl⟩ hW.1 rfl rfl rfl (Nat.le_of_ble_eq_true rfl) dCR_fill_7 ⟨Nat.le_of_ble_eq_true rfl, Nat.le_of_ble_eq_true rfl⟩) rfl (fun h1 hq => ?_)
  obtain ⟨f1, g1, hR1, hO1⟩ := hq
  have hr1 := obj_keep hW hr (by decide) hO1
  obtain ⟨fs1, hs1, hsl1⟩ := SA.keep hW ⟨fsr, hsr, hslr⟩ (fun i hi => (hF.2 i hi).1) hO1
  refine r_aload_n (n := 11) C dCR_fill_10 rfl rfl ?_
  refine r_aload_n (n := 12) C dCR_fill_11 rfl rfl ?_
  refine r_get (ci := 6) (n := 15) C hinCR rfl 1 (by decide) tw_379 rfl dCR_fill_12 rfl (by assumption) rfl ?_
  refine r_aald (n := 16) (t0 := 2) C dCR_fill_15 rfl hs1 rfl rt rfl (by omega) (by omega) (hsl1 rt hrt).1 ?_
  refine r_astore_n (n := 17) C dCR_fill_16 rfl (by decide) ?_
  refine r_aload_n (n := 18) C dCR_fill_17 rfl rfl ?_
  refine r_get (ci := 6) (n := 21) C hinCR rfl 2 (by decide) tw_380 rfl dCR_fill_18 rfl (by assumption) rfl ?_
  refine r_if_ne (tgt := 28) (n := 24) C dCR_fill_21 (by decide) rfl (fun c_21 => ?_) (fun c_21 => ?_)
  · have hkd : sgF kd = -1 := if_neg (fun e => c_21 (by rw [e]; rfl))
    refine r_ldc2 (n := 31) C tw_143 dCR_fill_28 rfl ?_
    refine V.eql hkd.symm ?_
    refine r_lstore (n := 33) C dCR_fill_31 rfl (by decide) ?_
    refine r_iconst (v := 0) (n := 34) C dCR_fill_33 rfl (by decide) ?_
    refine r_istore (n := 36) C dCR_fill_34 rfl (by decide) ?_
    refine V.byk (ls' := [(0, .ref r), (1, .ref s), (2, .ref wk.1), (3, .ref (S rt).1), (4, .long (sgF kd)), (6, .int (nI 0))]) rfl ?_
    exact loop _ 0 h1 f1 g1 rfl (Nat.zero_le _) hR1 hO1
  · have hkd : sgF kd = 1 := if_pos (by have := (nI_eq (a := kd) (b := 0) (by omega) (by omega)).mp c_21; exact this)
    refine r_lconst (v := 1) (n := 25) C dCR_fill_24 rfl (by decide) ?_
    refine V.eql hkd.symm ?_
    refine r_goto (tgt := 31) C dCR_fill_25 (by decide) ?_
    refine r_lstore (n := 33) C dCR_fill_31 rfl (by decide) ?_
    refine r_iconst (v := 0) (n := 34) C dCR_fill_33 rfl (by decide) ?_
    refine r_istore (n := 36) C dCR_fill_34 rfl (by decide) ?_
    refine V.byk (ls' := [(0, .ref r), (1, .ref s), (2, .ref wk.1), (3, .ref (S rt).1), (4, .long (sgF kd)), (6, .int (nI 0))]) rfl ?_
    exact loop _ 0 h1 f1 g1 rfl (Nat.zero_le _) hR1 hO1
set_option maxHeartbeats 4000000 in
set_option maxRecDepth 100000 in
/-- JoinRule.picked -/
theorem c_JR_picked (l : Launch) (o : Om) (h : AH) (A : Nat × Nat × Nat × Nat) (f : Nat → Int32) (g : Nat → Int64) (L : List Rw) (Bb : Nat × Nat × Nat × Nat) (fb : Nat → Int32) (gb : Nat → Int64) (M : List Rw) (i j c : Nat) (e q : Rw) (hR : RA0 o h A f g L) (hRb : RA0 o h Bb fb gb M) (he : L[i]? = some e) (hq0 : M[j]? = some q) (hc : c < 6) : Mt l o yJR_picked cJR_picked 5 (some .int) ({ frames := 1, cells := 0, slots := 0, locals := 22 } : Room) [.ref A.1, .int (nI i), .ref Bb.1, .int (nI j), .int (nI c)] h (QI o (fun x h' => x = pickF c e.1 q.1 ∧ h' = h)) (0) (0) := by
  refine Met.ofV (by decide) (Nat.le_of_ble_eq_true rfl) (fun K hl ho C => ?_)
  subst hl; subst ho
  refine r_iload (n := 2) C dJR_picked_0 rfl rfl ?_
  refine r_iconst (v := 3) (n := 3) C dJR_picked_2 rfl (by decide) ?_
  refine r_icmp_ge (tgt := 16) (n := 6) C dJR_picked_3 (by decide) rfl (fun c_3 => ?_) (fun c_3 => ?_)
  · have hz : ¬ c < 3 := by have := (nI_leI (a := 3) (b := c) (by omega) (by omega)).mp c_3; omega
    refine r_aload_n (n := 17) C dJR_picked_16 rfl rfl ?_
    refine r_iload_n (n := 18) C dJR_picked_17 rfl rfl ?_
    refine r_iload (n := 20) C dJR_picked_18 rfl rfl ?_
    refine r_iconst (v := 3) (n := 21) C dJR_picked_20 rfl (by decide) ?_
    refine r_isub (n := 22) C dJR_picked_21 rfl ?_
    refine V.eqi (y := nI (c - 3)) (pk_sub (a := c) (b := 3) (by omega)) ?_
    refine r_ci (n := 25) (rn_V (z := 2) (ci := 0) (T := TRW) C (c_RW_valueAt (Kl K) (Ko K) h Bb fb gb M j (c - 3) q hRb hq0 (by omega)) tw_246 tw_157 tw_158 tw_2 tw_159 rfl rfl ndRW_valueAt ⟨Nat.le_of_ble_eq_true rfl, Nat.le_of_ble_eq_true rfl⟩ hRb.1 rfl rfl rfl (Nat.le_of_ble_eq_true rfl) dJR_picked_22 ⟨Nat.le_of_ble_eq_true rfl, Nat.le_of_ble_eq_true rfl⟩) rfl (fun x ah hq => ?_)
    obtain ⟨e1, e2⟩ := hq
    subst e1
    rw [e2]
    exact r_iret C dJR_picked_25 (Nat.le_refl _) (Nat.le_refl _) ⟨(if_neg hz).symm, rfl⟩
  · have hz : c < 3 := by
      rcases Nat.lt_or_ge c 3 with q1 | q1
      · exact q1
      · exact absurd (nI_le (a := 3) (b := c) q1 (by omega)) c_3
    refine r_aload_n (n := 7) C dJR_picked_6 rfl rfl ?_
    refine r_iload_n (n := 8) C dJR_picked_7 rfl rfl ?_
    refine r_iload (n := 10) C dJR_picked_8 rfl rfl ?_
    refine r_ci (n := 13) (rn_V (z := 2) (ci := 0) (T := TRW) C (c_RW_valueAt (Kl K) (Ko K) h A f g L i c e hR he hz) tw_246 tw_157 tw_158 tw_2 tw_159 rfl rfl ndRW_valueAt ⟨Nat.le_of_ble_eq_true rfl, Nat.le_of_ble_eq_true rfl⟩ hR.1 rfl rfl rfl (Nat.le_of_ble_eq_true rfl) dJR_picked_10 ⟨Nat.le_of_ble_eq_true rfl, Nat.le_of_ble_eq_true rfl⟩) rfl (fun x ah hq => ?_)
    obtain ⟨e1, e2⟩ := hq
    subst e1
    rw [e2]
    refine r_goto (tgt := 25) C dJR_picked_13 (by decide) ?_
    exact r_iret C dJR_picked_25 (Nat.le_refl _) (Nat.le_refl _) ⟨(if_pos hz).symm, rfl⟩
def JO (lc rc x y z : Nat) (R : List Rw) : List Rw → Rw → List Rw := fun acc lr => R.foldl (JRf lc rc x y z lr) acc
theorem JO_srt {lc rc x y z : Nat} {R L : List Rw} (M : List Rw) (h : Srt L) : Srt (M.foldl (JO lc rc x y z R) L) := by
  induction M generalizing L with
  | nil => exact h
  | cons r M ih => exact ih ((gdJ lc rc x y z r).srt R h)
theorem JO_len {lc rc x y z : Nat} {R L : List Rw} (M : List Rw) : (M.foldl (JO lc rc x y z R) L).length ≤ L.length + M.length * R.length := by
  induction M generalizing L with
  | nil => simp
  | cons r M ih =>
    have h1 := ih (L := JO lc rc x y z R L r)
    have h2 : (JO lc rc x y z R L r).length ≤ L.length + R.length := (gdJ lc rc x y z r).len R
    simp only [List.foldl_cons, List.length_cons, Nat.succ_mul]
    omega
theorem div_n {a d : Nat} (ha : a < 2147483648) (h0 : 0 < d) (hd : d < 2147483648) : nI a / nI d = nI (a / d) := pk_div ha h0 hd
set_option maxHeartbeats 4000000 in
set_option maxRecDepth 100000 in
/-- JoinRule.fill -/
theorem c_JR_fill (l : Launch) (o : Om) (h : AH) (s r : Nat) (S : Nat → Nat × Nat × Nat × Nat) (Ls : Nat → List Rw) (wk : Nat × Nat × Nat × Nat) (f : Nat → Int32) (g : Nat → Int64) (lf rt lc rc pk : Nat) (hF : FP o h s S Ls wk) (hW : RA0 o h wk f g []) (hcw : wk.2.2.2 = 576) (hlf : lf < 13) (hrt : rt < 13) (hlc : lc < 3) (hrc : rc < 3) (hpk : pk < 216) (hr : h r = some (.inr (5, [.int (nI lf), .int (nI rt), .int (nI lc), .int (nI rc), .int (nI pk)]))) : Mt l o yJR_fill cJR_fill 10 none ({ frames := 3, cells := 0, slots := 0, locals := 101 } : Room) [.ref r, .ref s, .ref wk.1] h (QV o (fun h' => ∃ f' g', RA0 o h' wk f' g' (((Ls lf).foldl (JO lc rc (pk / 36) (pk / 6 % 6) (pk % 6) (Ls rt)) [])) ∧ Off wk h h')) (0) (0) := by
  refine Met.ofV (by decide) (Nat.le_of_ble_eq_true rfl) (fun K hl ho C => ?_)
  subst hl; subst ho
  obtain ⟨fsl, hsl, hsll⟩ := hF.1
  obtain ⟨hfil, fil, gil, hRil⟩ := hsll lf hlf
  obtain ⟨djl, hsil, hlil⟩ := hF.2 lf hlf
  obtain ⟨fsr, hsr, hslr⟩ := hF.1
  obtain ⟨hfir, fir, gir, hRir⟩ := hslr rt hrt
  obtain ⟨djr, hsir, hlir⟩ := hF.2 rt hrt
  have inner : ∀ (i : Nat) (e : Rw) (acc : List Rw), (Ls lf)[i]? = some e → i < 24 → Srt acc → acc.length ≤ i * (Ls rt).length → (∀ (h2 : AH) (f2 : Nat → Int32) (g2 : Nat → Int64), RA0 (Ko K) h2 wk f2 g2 ((Ls rt).foldl (JRf lc rc (pk / 36) (pk / 6 % 6) (pk % 6) e) acc) → Off wk h h2 → V K h2 0 0 (EndQ K (QV (Ko K) (fun h' => ∃ f' g', RA0 (Ko K) h' wk f' g' (((Ls lf).foldl (JO lc rc (pk / 36) (pk / 6 % 6) (pk % 6) (Ls rt)) [])) ∧ Off wk h h')) 0 0) 154 [(0, .ref r), (1, .ref s), (2, .ref wk.1), (3, .ref (S lf).1), (4, .ref (S rt).1), (5, .int (nI (pk / 36))), (6, .int (nI (pk / 6 % 6))), (7, .int (nI (pk % 6))), (8, .int (nI i))] []) → ∀ (m j : Nat) (h1 : AH) (f1 : Nat → Int32) (g1 : Nat → Int64), (Ls rt).length - j = m → j ≤ (Ls rt).length → RA0 (Ko K) h1 wk f1 g1 (((Ls rt).take j).foldl (JRf lc rc (pk / 36) (pk / 6 % 6) (pk % 6) e) acc) → Off wk h h1 → V K h1 0 0 (EndQ K (QV (Ko K) (fun h' => ∃ f' g', RA0 (Ko K) h' wk f' g' (((Ls lf).foldl (JO lc rc (pk / 36) (pk / 6 % 6) (pk % 6) (Ls rt)) [])) ∧ Off wk h h')) 0 0) 60 [(0, .ref r), (1, .ref s), (2, .ref wk.1), (3, .ref (S lf).1), (4, .ref (S rt).1), (5, .int (nI (pk / 36))), (6, .int (nI (pk / 6 % 6))), (7, .int (nI (pk % 6))), (8, .int (nI i)), (9, .int (nI j))] [] := by
    intro i e acc he hi24 hacc hal kk m
    induction m using Nat.strongRecOn with
    | _ m ih =>
      intro j h1 f1 g1 hm hj hR1 hO1
      have hb1 := hR1.1
      have hInl := RA0.keep hW hRil djl hO1
      have hInr := RA0.keep hW hRir djr hO1
      have hbl := hInl.1
      have hbr := hInr.1
      have hr1 := obj_keep hW hr (by decide) hO1
      have hl1 := (gdJ lc rc (pk / 36) (pk / 6 % 6) (pk % 6) e).len (L := acc) ((Ls rt).take j)
      rw [List.length_take] at hl1
      have hmul : i * (Ls rt).length ≤ 23 * 24 := Nat.mul_le_mul (by omega) hlir
      refine r_iload (n := 62) C dJR_fill_60 rfl rfl ?_
      refine r_aload (n := 64) C dJR_fill_62 rfl rfl ?_
      refine r_ci (n := 67) (rn_V (z := 0) (ci := 0) (T := TRW) C (c_RW_size (Kl K) (Ko K) h1 (S rt) fir gir (Ls rt) hInr) tw_245 tw_145 tw_146 tw_2 tw_147 rfl rfl ndRW_size ⟨Nat.le_of_ble_eq_true rfl, Nat.le_of_ble_eq_true rfl⟩ (by assumption) rfl rfl rfl (Nat.le_of_ble_eq_true rfl) dJR_fill_64 ⟨Nat.le_of_ble_eq_true rfl, Nat.le_of_ble_eq_true rfl⟩) rfl (fun v ah hq => ?_)
      obtain ⟨e1, e2⟩ := hq
      subst e1
      rw [e2]
      refine r_icmp_ge (tgt := 154) (n := 70) C dJR_fill_67 (by decide) rfl (fun c_67 => ?_) (fun c_67 => ?_)
      · have hie : j = (Ls rt).length := by have := (nI_leI (by omega) (by omega)).mp c_67; omega
        refine V.byk (ls' := [(0, .ref r), (1, .ref s), (2, .ref wk.1), (3, .ref (S lf).1), (4, .ref (S rt).1), (5, .int (nI (pk / 36))), (6, .int (nI (pk / 6 % 6))), (7, .int (nI (pk % 6))), (8, .int (nI i))]) rfl ?_
        exact kk h1 f1 g1 (by rw [hie, List.take_length] at hR1; exact hR1) hO1
      · have hlt : j < (Ls rt).length := by
          rcases Nat.lt_or_ge j (Ls rt).length with q | q
          · exact q
          · exact absurd (nI_le q (by omega)) c_67
        obtain ⟨q0, hq0⟩ : ∃ q0, (Ls rt)[j]? = some q0 := ⟨_, List.getElem?_eq_getElem hlt⟩
        refine r_aload_n (n := 71) C dJR_fill_70 rfl rfl ?_
        refine r_iload (n := 73) C dJR_fill_71 rfl rfl ?_
        refine r_aload_n (n := 74) C dJR_fill_73 rfl rfl ?_
        refine r_get (ci := 5) (n := 77) C hinJR rfl 2 (by decide) tw_354 rfl dJR_fill_74 rfl (by assumption) rfl ?_
        refine r_ci (n := 80) (rn_V (z := 2) (ci := 0) (T := TRW) C (c_RW_valueAt (Kl K) (Ko K) h1 (S lf) fil gil (Ls lf) i lc e hInl he hlc) tw_246 tw_157 tw_158 tw_2 tw_159 rfl rfl ndRW_valueAt ⟨Nat.le_of_ble_eq_true rfl, Nat.le_of_ble_eq_true rfl⟩ (by assumption) rfl rfl rfl (Nat.le_of_ble_eq_true rfl) dJR_fill_77 ⟨Nat.le_of_ble_eq_true rfl, Nat.le_of_ble_eq_true rfl⟩) rfl (fun v ah hq => ?_)
        obtain ⟨e1, e2⟩ := hq
        subst e1
        rw [e2]
        refine r_aload (n := 82) C dJR_fill_80 rfl rfl ?_
        refine r_iload (n := 84) C dJR_fill_82 rfl rfl ?_
        refine r_aload_n (n := 85) C dJR_fill_84 rfl rfl ?_
        refine r_get (ci := 5) (n := 88) C hinJR rfl 3 (by decide) tw_355 rfl dJR_fill_85 rfl (by assumption) rfl ?_
        refine r_ci (n := 91) (rn_V (z := 2) (ci := 0) (T := TRW) C (c_RW_valueAt (Kl K) (Ko K) h1 (S rt) fir gir (Ls rt) j rc q0 hInr hq0 hrc) tw_246 tw_157 tw_158 tw_2 tw_159 rfl rfl ndRW_valueAt ⟨Nat.le_of_ble_eq_true rfl, Nat.le_of_ble_eq_true rfl⟩ (by assumption) rfl rfl rfl (Nat.le_of_ble_eq_true rfl) dJR_fill_88 ⟨Nat.le_of_ble_eq_true rfl, Nat.le_of_ble_eq_true rfl⟩) rfl (fun v ah hq => ?_)
        obtain ⟨e1, e2⟩ := hq
        subst e1
        rw [e2]
        refine r_icmp_ne (tgt := 148) (n := 94) C dJR_fill_91 (by decide) rfl (fun c_91 => ?_) (fun c_91 => ?_)
        · refine r_iinc (n := 151) C dJR_fill_148 rfl rfl (nI_i j) (by decide) ?_
          refine r_goto (tgt := 60) C dJR_fill_151 (by decide) ?_
          refine V.byk (ls' := [(0, .ref r), (1, .ref s), (2, .ref wk.1), (3, .ref (S lf).1), (4, .ref (S rt).1), (5, .int (nI (pk / 36))), (6, .int (nI (pk / 6 % 6))), (7, .int (nI (pk % 6))), (8, .int (nI i)), (9, .int (nI (j + 1)))]) rfl ?_
          exact ih _ (by omega) (j + 1) h1 f1 g1 rfl (by omega) (by rw [fold_take (JRf lc rc (pk / 36) (pk / 6 % 6) (pk % 6) e) _ hq0]; unfold JRf; rw [if_neg c_91]; exact hR1) hO1
        · refine r_aload_n (n := 95) C dJR_fill_94 rfl rfl ?_
          refine r_aload_n (n := 96) C dJR_fill_95 rfl rfl ?_
          refine r_iload (n := 98) C dJR_fill_96 rfl rfl ?_
          refine r_aload (n := 100) C dJR_fill_98 rfl rfl ?_
          refine r_iload (n := 102) C dJR_fill_100 rfl rfl ?_
          refine r_iload (n := 104) C dJR_fill_102 rfl rfl ?_
          refine r_ci (n := 107) (rn_S (z := 5) C (c_JR_picked (Kl K) (Ko K) h1 (S lf) fil gil (Ls lf) (S rt) fir gir (Ls rt) i j (pk / 36) e q0 hInl hInr he hq0 (by omega)) tw_247 tw_248 tw_9 tw_249 rfl rfl ndJR_picked.2 ⟨Nat.le_of_ble_eq_true rfl, Nat.le_of_ble_eq_true rfl⟩ rfl rfl (Nat.le_of_ble_eq_true rfl) dJR_fill_104 ⟨Nat.le_of_ble_eq_true rfl, Nat.le_of_ble_eq_true rfl⟩) rfl (fun v ah hq => ?_)
          obtain ⟨e1, e2⟩ := hq
          subst e1
          rw [e2]
          refine r_aload_n (n := 108) C dJR_fill_107 rfl rfl ?_
          refine r_iload (n := 110) C dJR_fill_108 rfl rfl ?_
          refine r_aload (n := 112) C dJR_fill_110 rfl rfl ?_
          refine r_iload (n := 114) C dJR_fill_112 rfl rfl ?_
          refine r_iload (n := 116) C dJR_fill_114 rfl rfl ?_
          refine r_ci (n := 119) (rn_S (z := 5) C (c_JR_picked (Kl K) (Ko K) h1 (S lf) fil gil (Ls lf) (S rt) fir gir (Ls rt) i j (pk / 6 % 6) e q0 hInl hInr he hq0 (by omega)) tw_247 tw_248 tw_9 tw_249 rfl rfl ndJR_picked.2 ⟨Nat.le_of_ble_eq_true rfl, Nat.le_of_ble_eq_true rfl⟩ rfl rfl (Nat.le_of_ble_eq_true rfl) dJR_fill_116 ⟨Nat.le_of_ble_eq_true rfl, Nat.le_of_ble_eq_true rfl⟩) rfl (fun v ah hq => ?_)
          obtain ⟨e1, e2⟩ := hq
          subst e1
          rw [e2]
          refine r_aload_n (n := 120) C dJR_fill_119 rfl rfl ?_
          refine r_iload (n := 122) C dJR_fill_120 rfl rfl ?_
          refine r_aload (n := 124) C dJR_fill_122 rfl rfl ?_
          refine r_iload (n := 126) C dJR_fill_124 rfl rfl ?_
          refine r_iload (n := 128) C dJR_fill_126 rfl rfl ?_
          refine r_ci (n := 131) (rn_S (z := 5) C (c_JR_picked (Kl K) (Ko K) h1 (S lf) fil gil (Ls lf) (S rt) fir gir (Ls rt) i j (pk % 6) e q0 hInl hInr he hq0 (by omega)) tw_247 tw_248 tw_9 tw_249 rfl rfl ndJR_picked.2 ⟨Nat.le_of_ble_eq_true rfl, Nat.le_of_ble_eq_true rfl⟩ rfl rfl (Nat.le_of_ble_eq_true rfl) dJR_fill_128 ⟨Nat.le_of_ble_eq_true rfl, Nat.le_of_ble_eq_true rfl⟩) rfl (fun v ah hq => ?_)
          obtain ⟨e1, e2⟩ := hq
          subst e1
          rw [e2]
          refine r_aload_n (n := 132) C dJR_fill_131 rfl rfl ?_
          refine r_iload (n := 134) C dJR_fill_132 rfl rfl ?_
          refine r_cl (n := 137) (rn_V (z := 1) (ci := 0) (T := TRW) C (c_RW_weightAt (Kl K) (Ko K) h1 (S lf) fil gil (Ls lf) i e hInl he) tw_250 tw_149 tw_150 tw_2 tw_151 rfl rfl ndRW_weightAt ⟨Nat.le_of_ble_eq_true rfl, Nat.le_of_ble_eq_true rfl⟩ (by assumption) rfl rfl rfl (Nat.le_of_ble_eq_true rfl) dJR_fill_134 ⟨Nat.le_of_ble_eq_true rfl, Nat.le_of_ble_eq_true rfl⟩) rfl (fun v ah hq => ?_)
          obtain ⟨e1, e2⟩ := hq
          subst e1
          rw [e2]
          refine r_aload (n := 139) C dJR_fill_137 rfl rfl ?_
          refine r_iload (n := 141) C dJR_fill_139 rfl rfl ?_
          refine r_cl (n := 144) (rn_V (z := 1) (ci := 0) (T := TRW) C (c_RW_weightAt (Kl K) (Ko K) h1 (S rt) fir gir (Ls rt) j q0 hInr hq0) tw_250 tw_149 tw_150 tw_2 tw_151 rfl rfl ndRW_weightAt ⟨Nat.le_of_ble_eq_true rfl, Nat.le_of_ble_eq_true rfl⟩ (by assumption) rfl rfl rfl (Nat.le_of_ble_eq_true rfl) dJR_fill_141 ⟨Nat.le_of_ble_eq_true rfl, Nat.le_of_ble_eq_true rfl⟩) rfl (fun v ah hq => ?_)
          obtain ⟨e1, e2⟩ := hq
          subst e1
          rw [e2]
          refine r_lmul (n := 145) C dJR_fill_144 rfl ?_
          refine r_cv (n := 148) (rn_V (z := 4) (ci := 0) (T := TRW) C (c_RW_addWeight (Kl K) (Ko K) h1 wk f1 g1 _ (pickF (pk / 36) e.1 q0.1) (pickF (pk / 6 % 6) e.1 q0.1) (pickF (pk % 6) e.1 q0.1) (e.2 * q0.2) hR1 ((gdJ lc rc (pk / 36) (pk / 6 % 6) (pk % 6) e).srt _ hacc) (by omega)) tw_251 tw_161 tw_162 tw_2 tw_163 rfl rfl ndRW_addWeight ⟨Nat.le_of_ble_eq_true rfl, Nat.le_of_ble_eq_true rfl⟩ hb1 rfl rfl rfl (Nat.le_of_ble_eq_true rfl) dJR_fill_145 ⟨Nat.le_of_ble_eq_true rfl, Nat.le_of_ble_eq_true rfl⟩) rfl (fun h2 hq => ?_)
          obtain ⟨f2, g2, hR2, hO2⟩ := hq
          refine r_iinc (n := 151) C dJR_fill_148 rfl rfl (nI_i j) (by decide) ?_
          refine r_goto (tgt := 60) C dJR_fill_151 (by decide) ?_
          refine V.byk (ls' := [(0, .ref r), (1, .ref s), (2, .ref wk.1), (3, .ref (S lf).1), (4, .ref (S rt).1), (5, .int (nI (pk / 36))), (6, .int (nI (pk / 6 % 6))), (7, .int (nI (pk % 6))), (8, .int (nI i)), (9, .int (nI (j + 1)))]) rfl ?_
          exact ih _ (by omega) (j + 1) h2 f2 g2 rfl (by omega) (by rw [fold_take (JRf lc rc (pk / 36) (pk / 6 % 6) (pk % 6) e) _ hq0]; unfold JRf; rw [if_pos c_91]; exact hR2) (hO1.tr hO2)
  have outer : ∀ (m i : Nat) (h1 : AH) (f1 : Nat → Int32) (g1 : Nat → Int64), (Ls lf).length - i = m → i ≤ (Ls lf).length → RA0 (Ko K) h1 wk f1 g1 (((Ls lf).take i).foldl (JO lc rc (pk / 36) (pk / 6 % 6) (pk % 6) (Ls rt)) []) → Off wk h h1 → V K h1 0 0 (EndQ K (QV (Ko K) (fun h' => ∃ f' g', RA0 (Ko K) h' wk f' g' (((Ls lf).foldl (JO lc rc (pk / 36) (pk / 6 % 6) (pk % 6) (Ls rt)) [])) ∧ Off wk h h')) 0 0) 48 [(0, .ref r), (1, .ref s), (2, .ref wk.1), (3, .ref (S lf).1), (4, .ref (S rt).1), (5, .int (nI (pk / 36))), (6, .int (nI (pk / 6 % 6))), (7, .int (nI (pk % 6))), (8, .int (nI i))] [] := by
    intro m
    induction m using Nat.strongRecOn with
    | _ m ih =>
      intro i h1 f1 g1 hm hi hR1 hO1
      have hInl := RA0.keep hW hRil djl hO1
      have hbl := hInl.1
      have hl1 := JO_len (lc := lc) (rc := rc) (x := (pk / 36)) (y := (pk / 6 % 6)) (z := (pk % 6)) (R := Ls rt) (L := []) ((Ls lf).take i)
      rw [List.length_take, Nat.min_eq_left hi] at hl1
      simp only [List.length_nil, Nat.zero_add] at hl1
      refine r_iload (n := 50) C dJR_fill_48 rfl rfl ?_
      refine r_aload_n (n := 51) C dJR_fill_50 rfl rfl ?_
      refine r_ci (n := 54) (rn_V (z := 0) (ci := 0) (T := TRW) C (c_RW_size (Kl K) (Ko K) h1 (S lf) fil gil (Ls lf) hInl) tw_245 tw_145 tw_146 tw_2 tw_147 rfl rfl ndRW_size ⟨Nat.le_of_ble_eq_true rfl, Nat.le_of_ble_eq_true rfl⟩ (by assumption) rfl rfl rfl (Nat.le_of_ble_eq_true rfl) dJR_fill_51 ⟨Nat.le_of_ble_eq_true rfl, Nat.le_of_ble_eq_true rfl⟩) rfl (fun v ah hq => ?_)
      obtain ⟨e1, e2⟩ := hq
      subst e1
      rw [e2]
      refine r_icmp_ge (tgt := 160) (n := 57) C dJR_fill_54 (by decide) rfl (fun c_54 => ?_) (fun c_54 => ?_)
      · have hie : i = (Ls lf).length := by have := (nI_leI (by omega) (by omega)).mp c_54; omega
        exact r_vret C dJR_fill_160 (Nat.le_refl _) (Nat.le_refl _) ⟨f1, g1, by rw [hie, List.take_length] at hR1; exact hR1, hO1⟩
      · have hlt : i < (Ls lf).length := by
          rcases Nat.lt_or_ge i (Ls lf).length with q | q
          · exact q
          · exact absurd (nI_le q (by omega)) c_54
        obtain ⟨e, he⟩ : ∃ e, (Ls lf)[i]? = some e := ⟨_, List.getElem?_eq_getElem hlt⟩
        refine r_iconst (v := 0) (n := 58) C dJR_fill_57 rfl (by decide) ?_
        refine r_istore (n := 60) C dJR_fill_58 rfl (by decide) ?_
        refine V.byk (ls' := [(0, .ref r), (1, .ref s), (2, .ref wk.1), (3, .ref (S lf).1), (4, .ref (S rt).1), (5, .int (nI (pk / 36))), (6, .int (nI (pk / 6 % 6))), (7, .int (nI (pk % 6))), (8, .int (nI i)), (9, .int (nI 0))]) rfl ?_
        refine inner i e _ he (by omega) (JO_srt _ List.Pairwise.nil) hl1 (fun h2 f2 g2 hR2 hO2 => ?_) _ 0 h1 f1 g1 rfl (Nat.zero_le _) hR1 hO1
        refine r_iinc (n := 157) C dJR_fill_154 rfl rfl (nI_i i) (by decide) ?_
        refine r_goto (tgt := 48) C dJR_fill_157 (by decide) ?_
        refine V.byk (ls' := [(0, .ref r), (1, .ref s), (2, .ref wk.1), (3, .ref (S lf).1), (4, .ref (S rt).1), (5, .int (nI (pk / 36))), (6, .int (nI (pk / 6 % 6))), (7, .int (nI (pk % 6))), (8, .int (nI (i + 1)))]) rfl ?_
        exact ih _ (by omega) (i + 1) h2 f2 g2 rfl (by omega) (by rw [fold_take (JO lc rc (pk / 36) (pk / 6 % 6) (pk % 6) (Ls rt)) _ he]; exact hR2) hO2
  refine r_aload_n (n := 1) C dJR_fill_0 rfl rfl ?_
  refine r_aload_n (n := 2) C dJR_fill_1 rfl rfl ?_
  refine r_get (ci := 5) (n := 5) C hinJR rfl 0 (by decide) tw_352 rfl dJR_fill_2 rfl (by assumption) rfl ?_
  refine r_aald (n := 6) (t0 := 2) C dJR_fill_5 rfl (by assumption) rfl lf rfl (by omega) (by omega) hfil ?_
  refine r_astore_n (n := 7) C dJR_fill_6 rfl (by decide) ?_
  refine r_aload_n (n := 8) C dJR_fill_7 rfl rfl ?_
  refine r_aload_n (n := 9) C dJR_fill_8 rfl rfl ?_
  refine r_get (ci := 5) (n := 12) C hinJR rfl 1 (by decide) tw_353 rfl dJR_fill_9 rfl (by assumption) rfl ?_
  refine r_aald (n := 13) (t0 := 2) C dJR_fill_12 rfl hsl rfl rt rfl (by omega) (by omega) (hsll rt hrt).1 ?_
  refine r_astore (n := 15) C dJR_fill_13 rfl (by decide) ?_
  refine r_aload_n (n := 16) C dJR_fill_15 rfl rfl ?_
  refine r_get (ci := 5) (n := 19) C hinJR rfl 4 (by decide) tw_356 rfl dJR_fill_16 rfl (by assumption) rfl ?_
  refine r_bipush (v := 36) (n := 21) C dJR_fill_19 rfl (by decide) ?_
  refine r_idiv (n := 22) C dJR_fill_21 rfl (by decide) ?_
  refine V.eqi (y := nI (pk / 36)) (div_n (d := 36) (by omega) (by omega) (by omega)) ?_
  refine r_istore (n := 24) C dJR_fill_22 rfl (by decide) ?_
  refine r_aload_n (n := 25) C dJR_fill_24 rfl rfl ?_
  refine r_get (ci := 5) (n := 28) C hinJR rfl 4 (by decide) tw_356 rfl dJR_fill_25 rfl (by assumption) rfl ?_
  refine r_bipush (v := 6) (n := 30) C dJR_fill_28 rfl (by decide) ?_
  refine r_idiv (n := 31) C dJR_fill_30 rfl (by decide) ?_
  refine V.eqi (y := nI (pk / 6)) (div_n (d := 6) (by omega) (by omega) (by omega)) ?_
  refine r_bipush (v := 6) (n := 33) C dJR_fill_31 rfl (by decide) ?_
  refine r_irem (n := 34) C dJR_fill_33 rfl (by decide) ?_
  refine V.eqi (y := nI (pk / 6 % 6)) (pk_rem (a := pk / 6) (d := 6) (by omega) (by omega) (by omega)) ?_
  refine r_istore (n := 36) C dJR_fill_34 rfl (by decide) ?_
  refine r_aload_n (n := 37) C dJR_fill_36 rfl rfl ?_
  refine r_get (ci := 5) (n := 40) C hinJR rfl 4 (by decide) tw_356 rfl dJR_fill_37 rfl (by assumption) rfl ?_
  refine r_bipush (v := 6) (n := 42) C dJR_fill_40 rfl (by decide) ?_
  refine r_irem (n := 43) C dJR_fill_42 rfl (by decide) ?_
  refine V.eqi (y := nI (pk % 6)) (pk_rem (a := pk) (d := 6) (by omega) (by omega) (by omega)) ?_
  refine r_istore (n := 45) C dJR_fill_43 rfl (by decide) ?_
  refine r_iconst (v := 0) (n := 46) C dJR_fill_45 rfl (by decide) ?_
  refine r_istore (n := 48) C dJR_fill_46 rfl (by decide) ?_
  refine V.byk (ls' := [(0, .ref r), (1, .ref s), (2, .ref wk.1), (3, .ref (S lf).1), (4, .ref (S rt).1), (5, .int (nI (pk / 36))), (6, .int (nI (pk / 6 % 6))), (7, .int (nI (pk % 6))), (8, .int (nI 0))]) rfl ?_
  exact outer _ 0 h f g rfl (Nat.zero_le _) hW Off.rf
end
section
/-! RULES: group -/
def withB (key : Nat) (k : Int32) (q : Rw) : Bool := decide (0 < q.2) && decide (colv q.1 key = k)
def startV (kd col : Nat) (q : Rw) : Int32 := match kd with
  | 0 => q.2.toInt32
  | 1 => (q.2 * (colv q.1 col).toInt64).toInt32
  | _ => colv q.1 col
def joinV (kd : Nat) (a b : Int32) : Int32 := match kd with
  | 2 => if b < a then b else a
  | 3 => if a < b then b else a
  | _ => a + b
def gvF (kd key col : Nat) (k : Int32) (v : Int32) (q : Rw) : Int32 := if withB key k q = true then joinV kd v (startV kd col q) else v
def gval (kd key col : Nat) (M : List Rw) (i : Nat) (e : Rw) : Int32 := (M.drop (i + 1)).foldl (gvF kd key col (colv e.1 key)) (startV kd col e)
def GRi (kd key col : Nat) (M : List Rw) : Nat → List Rw
  | 0 => []
  | i + 1 => match M[i]? with
    | some e => if 0 < e.2 ∧ ((M.take i).any (withB key (colv e.1 key))) = false then addW (GRi kd key col M i) (colv e.1 key, gval kd key col M i e, 0) 1 else GRi kd key col M i
    | none => GRi kd key col M i
theorem GRi_srt (kd key col : Nat) (M : List Rw) : ∀ i, Srt (GRi kd key col M i)
  | 0 => List.Pairwise.nil
  | i + 1 => by
    unfold GRi
    split
    · split
      · exact addW_srt _ _ (GRi_srt kd key col M i)
      · exact GRi_srt kd key col M i
    · exact GRi_srt kd key col M i
theorem GRi_len (kd key col : Nat) (M : List Rw) : ∀ i, (GRi kd key col M i).length ≤ i
  | 0 => Nat.le_refl _
  | i + 1 => by
    have ih := GRi_len kd key col M i
    unfold GRi
    split
    · split
      · exact Nat.le_trans (addW_len _ _) (by omega)
      · omega
    · omega
theorem drop_take_succ {M : List Rw} {i j : Nat} {e : Rw} (hij : i ≤ j) (he : M[j]? = some e) : (M.take (j + 1)).drop i = (M.take j).drop i ++ [e] := by
  rw [List.take_succ, he, List.drop_append_of_le_length (by
    have := (List.getElem?_eq_some_iff.mp he).1
    rw [List.length_take]; omega)]
  rfl
set_option maxHeartbeats 4000000 in
set_option maxRecDepth 100000 in
/-- GroupRule.isWith -/
theorem c_GR_isWith (l : Launch) (o : Om) (h : AH) (r : Nat) (A : Nat × Nat × Nat × Nat) (f : Nat → Int32) (g : Nat → Int64) (L : List Rw) (inp key col kd : Nat) (i : Nat) (e : Rw) (k : Int32) (hR : RA0 o h A f g L) (hr : h r = some (.inr (8, [.int (nI inp), .int (nI key), .int (nI col), .int (nI kd)]))) (hkey : key < 3) (he : L[i]? = some e) : Mt l o yGR_isWith cGR_isWith 4 (some .boolean) ({ frames := 1, cells := 0, slots := 0, locals := 22 } : Room) [.ref r, .ref A.1, .int (nI i), .int k] h (QI o (fun x h' => x = b01 (withB key k e) ∧ h' = h)) (0) (0) := by
  refine Met.ofV (by decide) (Nat.le_of_ble_eq_true rfl) (fun K hl ho C => ?_)
  subst hl; subst ho
  refine r_aload_n (n := 1) C dGR_isWith_0 rfl rfl ?_
  refine r_iload_n (n := 2) C dGR_isWith_1 rfl rfl ?_
  refine r_cl (n := 5) (rn_V (z := 1) (ci := 0) (T := TRW) C (c_RW_weightAt (Kl K) (Ko K) h A f g L i e hR he) tw_211 tw_149 tw_150 tw_2 tw_151 rfl rfl ndRW_weightAt ⟨Nat.le_of_ble_eq_true rfl, Nat.le_of_ble_eq_true rfl⟩ hR.1 rfl rfl rfl (Nat.le_of_ble_eq_true rfl) dGR_isWith_2 ⟨Nat.le_of_ble_eq_true rfl, Nat.le_of_ble_eq_true rfl⟩) rfl (fun x ah hq => ?_)
  obtain ⟨e1, e2⟩ := hq
  subst e1
  rw [e2]
  refine r_lconst (v := 0) (n := 6) C dGR_isWith_5 rfl (by decide) ?_
  refine r_lcmp (n := 7) C dGR_isWith_6 rfl ?_
  refine r_if_le (tgt := 27) (n := 10) C dGR_isWith_7 (by decide) rfl (fun c_7 => ?_) (fun c_7 => ?_)
  · have hz : withB key k e = false := by
      unfold withB
      rw [decide_eq_false (Int64.not_lt.mpr ((lg_cmp_le _ _).mp c_7)), Bool.false_and]
    refine r_iconst (v := 0) (n := 28) C dGR_isWith_27 rfl (by decide) ?_
    exact r_zret C dGR_isWith_28 rfl (Nat.le_refl _) (Nat.le_refl _) ⟨by rw [hz]; rfl, rfl⟩
  · have hp : 0 < e.2 := Int64.not_le.mp (fun q => c_7 ((lg_cmp_le _ _).mpr q))
    refine r_aload_n (n := 11) C dGR_isWith_10 rfl rfl ?_
    refine r_iload_n (n := 12) C dGR_isWith_11 rfl rfl ?_
    refine r_aload_n (n := 13) C dGR_isWith_12 rfl rfl ?_
    refine r_get (ci := 8) (n := 16) C hinGR rfl 1 (by decide) tw_412 rfl dGR_isWith_13 rfl (by assumption) rfl ?_
    refine r_ci (n := 19) (rn_V (z := 2) (ci := 0) (T := TRW) C (c_RW_valueAt (Kl K) (Ko K) h A f g L i key e hR he hkey) tw_217 tw_157 tw_158 tw_2 tw_159 rfl rfl ndRW_valueAt ⟨Nat.le_of_ble_eq_true rfl, Nat.le_of_ble_eq_true rfl⟩ hR.1 rfl rfl rfl (Nat.le_of_ble_eq_true rfl) dGR_isWith_16 ⟨Nat.le_of_ble_eq_true rfl, Nat.le_of_ble_eq_true rfl⟩) rfl (fun x ah hq => ?_)
    obtain ⟨e1, e2⟩ := hq
    subst e1
    rw [e2]
    refine r_iload_n (n := 20) C dGR_isWith_19 rfl rfl ?_
    refine r_icmp_ne (tgt := 27) (n := 23) C dGR_isWith_20 (by decide) rfl (fun c_20 => ?_) (fun c_20 => ?_)
    · have hz : withB key k e = false := by
        unfold withB
        rw [decide_eq_false c_20, Bool.and_false]
      refine r_iconst (v := 0) (n := 28) C dGR_isWith_27 rfl (by decide) ?_
      exact r_zret C dGR_isWith_28 rfl (Nat.le_refl _) (Nat.le_refl _) ⟨by rw [hz]; rfl, rfl⟩
    · have hz : withB key k e = true := by
        unfold withB
        rw [decide_eq_true c_20, decide_eq_true hp]; rfl
      refine r_iconst (v := 1) (n := 24) C dGR_isWith_23 rfl (by decide) ?_
      refine r_goto (tgt := 28) C dGR_isWith_24 (by decide) ?_
      exact r_zret C dGR_isWith_28 rfl (Nat.le_refl _) (Nat.le_refl _) ⟨by rw [hz]; rfl, rfl⟩
set_option maxHeartbeats 4000000 in
set_option maxRecDepth 100000 in
/-- GroupRule.startValue -/
theorem c_GR_startValue (l : Launch) (o : Om) (h : AH) (r : Nat) (A : Nat × Nat × Nat × Nat) (f : Nat → Int32) (g : Nat → Int64) (L : List Rw) (inp key col kd : Nat) (i : Nat) (e : Rw) (hR : RA0 o h A f g L) (hr : h r = some (.inr (8, [.int (nI inp), .int (nI key), .int (nI col), .int (nI kd)]))) (hcol : col < 3) (hkd : kd < 4) (he : L[i]? = some e) : Mt l o yGR_startValue cGR_startValue 3 (some .int) ({ frames := 1, cells := 0, slots := 0, locals := 22 } : Room) [.ref r, .ref A.1, .int (nI i)] h (QI o (fun x h' => x = startV kd col e ∧ h' = h)) (0) (0) := by
  refine Met.ofV (by decide) (Nat.le_of_ble_eq_true rfl) (fun K hl ho C => ?_)
  subst hl; subst ho
  rcases (show kd = 0 ∨ kd = 1 ∨ kd = 2 ∨ kd = 3 by omega) with e0 | e0 | e0 | e0 <;> subst e0
  · refine r_aload_n (n := 1) C dGR_startValue_0 rfl rfl ?_
    refine r_get (ci := 8) (n := 4) C hinGR rfl 3 (by decide) tw_414 rfl dGR_startValue_1 rfl (by assumption) rfl ?_
    refine r_lookup (off := 28) (tgt := 32) C dGR_startValue_4 (by decide +kernel) (by decide +kernel) (by decide) ?_
    refine r_aload_n (n := 33) C dGR_startValue_32 rfl rfl ?_
    refine r_iload_n (n := 34) C dGR_startValue_33 rfl rfl ?_
    refine r_cl (n := 37) (rn_V (z := 1) (ci := 0) (T := TRW) C (c_RW_weightAt (Kl K) (Ko K) h A f g L i e hR he) tw_211 tw_149 tw_150 tw_2 tw_151 rfl rfl ndRW_weightAt ⟨Nat.le_of_ble_eq_true rfl, Nat.le_of_ble_eq_true rfl⟩ hR.1 rfl rfl rfl (Nat.le_of_ble_eq_true rfl) dGR_startValue_34 ⟨Nat.le_of_ble_eq_true rfl, Nat.le_of_ble_eq_true rfl⟩) rfl (fun x ah hq => ?_)
    obtain ⟨e1, e2⟩ := hq
    subst e1
    rw [e2]
    refine r_l2i (n := 38) C dGR_startValue_37 rfl ?_
    exact r_iret C dGR_startValue_38 (Nat.le_refl _) (Nat.le_refl _) ⟨rfl, rfl⟩
  · refine r_aload_n (n := 1) C dGR_startValue_0 rfl rfl ?_
    refine r_get (ci := 8) (n := 4) C hinGR rfl 3 (by decide) tw_414 rfl dGR_startValue_1 rfl (by assumption) rfl ?_
    refine r_lookup (off := 35) (tgt := 39) C dGR_startValue_4 (by decide +kernel) (by decide +kernel) (by decide) ?_
    refine r_aload_n (n := 40) C dGR_startValue_39 rfl rfl ?_
    refine r_iload_n (n := 41) C dGR_startValue_40 rfl rfl ?_
    refine r_cl (n := 44) (rn_V (z := 1) (ci := 0) (T := TRW) C (c_RW_weightAt (Kl K) (Ko K) h A f g L i e hR he) tw_211 tw_149 tw_150 tw_2 tw_151 rfl rfl ndRW_weightAt ⟨Nat.le_of_ble_eq_true rfl, Nat.le_of_ble_eq_true rfl⟩ hR.1 rfl rfl rfl (Nat.le_of_ble_eq_true rfl) dGR_startValue_41 ⟨Nat.le_of_ble_eq_true rfl, Nat.le_of_ble_eq_true rfl⟩) rfl (fun x ah hq => ?_)
    obtain ⟨e1, e2⟩ := hq
    subst e1
    rw [e2]
    refine r_aload_n (n := 45) C dGR_startValue_44 rfl rfl ?_
    refine r_iload_n (n := 46) C dGR_startValue_45 rfl rfl ?_
    refine r_aload_n (n := 47) C dGR_startValue_46 rfl rfl ?_
    refine r_get (ci := 8) (n := 50) C hinGR rfl 2 (by decide) tw_413 rfl dGR_startValue_47 rfl (by assumption) rfl ?_
    refine r_ci (n := 53) (rn_V (z := 2) (ci := 0) (T := TRW) C (c_RW_valueAt (Kl K) (Ko K) h A f g L i col e hR he hcol) tw_217 tw_157 tw_158 tw_2 tw_159 rfl rfl ndRW_valueAt ⟨Nat.le_of_ble_eq_true rfl, Nat.le_of_ble_eq_true rfl⟩ hR.1 rfl rfl rfl (Nat.le_of_ble_eq_true rfl) dGR_startValue_50 ⟨Nat.le_of_ble_eq_true rfl, Nat.le_of_ble_eq_true rfl⟩) rfl (fun x ah hq => ?_)
    obtain ⟨e1, e2⟩ := hq
    subst e1
    rw [e2]
    refine r_i2l (n := 54) C dGR_startValue_53 rfl ?_
    refine r_lmul (n := 55) C dGR_startValue_54 rfl ?_
    refine r_l2i (n := 56) C dGR_startValue_55 rfl ?_
    exact r_iret C dGR_startValue_56 (Nat.le_refl _) (Nat.le_refl _) ⟨rfl, rfl⟩
  · refine r_aload_n (n := 1) C dGR_startValue_0 rfl rfl ?_
    refine r_get (ci := 8) (n := 4) C hinGR rfl 3 (by decide) tw_414 rfl dGR_startValue_1 rfl (by assumption) rfl ?_
    refine r_lookup (off := 53) (tgt := 57) C dGR_startValue_4 (by decide +kernel) (by decide +kernel) (by decide) ?_
    refine r_aload_n (n := 58) C dGR_startValue_57 rfl rfl ?_
    refine r_iload_n (n := 59) C dGR_startValue_58 rfl rfl ?_
    refine r_aload_n (n := 60) C dGR_startValue_59 rfl rfl ?_
    refine r_get (ci := 8) (n := 63) C hinGR rfl 2 (by decide) tw_413 rfl dGR_startValue_60 rfl (by assumption) rfl ?_
    refine r_ci (n := 66) (rn_V (z := 2) (ci := 0) (T := TRW) C (c_RW_valueAt (Kl K) (Ko K) h A f g L i col e hR he hcol) tw_217 tw_157 tw_158 tw_2 tw_159 rfl rfl ndRW_valueAt ⟨Nat.le_of_ble_eq_true rfl, Nat.le_of_ble_eq_true rfl⟩ hR.1 rfl rfl rfl (Nat.le_of_ble_eq_true rfl) dGR_startValue_63 ⟨Nat.le_of_ble_eq_true rfl, Nat.le_of_ble_eq_true rfl⟩) rfl (fun x ah hq => ?_)
    obtain ⟨e1, e2⟩ := hq
    subst e1
    rw [e2]
    exact r_iret C dGR_startValue_66 (Nat.le_refl _) (Nat.le_refl _) ⟨rfl, rfl⟩
  · refine r_aload_n (n := 1) C dGR_startValue_0 rfl rfl ?_
    refine r_get (ci := 8) (n := 4) C hinGR rfl 3 (by decide) tw_414 rfl dGR_startValue_1 rfl (by assumption) rfl ?_
    refine r_lookup (off := 53) (tgt := 57) C dGR_startValue_4 (by decide +kernel) (by decide +kernel) (by decide) ?_
    refine r_aload_n (n := 58) C dGR_startValue_57 rfl rfl ?_
    refine r_iload_n (n := 59) C dGR_startValue_58 rfl rfl ?_
    refine r_aload_n (n := 60) C dGR_startValue_59 rfl rfl ?_
    refine r_get (ci := 8) (n := 63) C hinGR rfl 2 (by decide) tw_413 rfl dGR_startValue_60 rfl (by assumption) rfl ?_
    refine r_ci (n := 66) (rn_V (z := 2) (ci := 0) (T := TRW) C (c_RW_valueAt (Kl K) (Ko K) h A f g L i col e hR he hcol) tw_217 tw_157 tw_158 tw_2 tw_159 rfl rfl ndRW_valueAt ⟨Nat.le_of_ble_eq_true rfl, Nat.le_of_ble_eq_true rfl⟩ hR.1 rfl rfl rfl (Nat.le_of_ble_eq_true rfl) dGR_startValue_63 ⟨Nat.le_of_ble_eq_true rfl, Nat.le_of_ble_eq_true rfl⟩) rfl (fun x ah hq => ?_)
    obtain ⟨e1, e2⟩ := hq
    subst e1
    rw [e2]
    exact r_iret C dGR_startValue_66 (Nat.le_refl _) (Nat.le_refl _) ⟨rfl, rfl⟩
set_option maxHeartbeats 4000000 in
set_option maxRecDepth 100000 in
/-- GroupRule.joined -/
theorem c_GR_joined (l : Launch) (o : Om) (h : AH) (r : Nat) (inp key col kd : Nat) (a b : Int32) (hr : h r = some (.inr (8, [.int (nI inp), .int (nI key), .int (nI col), .int (nI kd)]))) (hkd : kd < 4) : Mt l o yGR_joined cGR_joined 3 (some .int) ({ frames := 1, cells := 0, slots := 0, locals := 24 } : Room) [.ref r, .int a, .int b] h (QI o (fun x h' => x = joinV kd a b ∧ h' = h)) (0) (0) := by
  refine Met.ofV (by decide) (Nat.le_of_ble_eq_true rfl) (fun K hl ho C => ?_)
  subst hl; subst ho
  rcases (show kd = 0 ∨ kd = 1 ∨ kd = 2 ∨ kd = 3 by omega) with e0 | e0 | e0 | e0 <;> subst e0
  · refine r_aload_n (n := 1) C dGR_joined_0 rfl rfl ?_
    refine r_get (ci := 8) (n := 4) C hinGR rfl 3 (by decide) tw_414 rfl dGR_joined_1 rfl (by assumption) rfl ?_
    refine r_lookup (off := 40) (tgt := 44) C dGR_joined_4 (by decide +kernel) (by decide +kernel) (by decide) ?_
    refine r_iload_n (n := 45) C dGR_joined_44 rfl rfl ?_
    refine r_iload_n (n := 46) C dGR_joined_45 rfl rfl ?_
    refine r_iadd (n := 47) C dGR_joined_46 rfl ?_
    exact r_iret C dGR_joined_47 (Nat.le_refl _) (Nat.le_refl _) ⟨rfl, rfl⟩
  · refine r_aload_n (n := 1) C dGR_joined_0 rfl rfl ?_
    refine r_get (ci := 8) (n := 4) C hinGR rfl 3 (by decide) tw_414 rfl dGR_joined_1 rfl (by assumption) rfl ?_
    refine r_lookup (off := 40) (tgt := 44) C dGR_joined_4 (by decide +kernel) (by decide +kernel) (by decide) ?_
    refine r_iload_n (n := 45) C dGR_joined_44 rfl rfl ?_
    refine r_iload_n (n := 46) C dGR_joined_45 rfl rfl ?_
    refine r_iadd (n := 47) C dGR_joined_46 rfl ?_
    exact r_iret C dGR_joined_47 (Nat.le_refl _) (Nat.le_refl _) ⟨rfl, rfl⟩
  · refine r_aload_n (n := 1) C dGR_joined_0 rfl rfl ?_
    refine r_get (ci := 8) (n := 4) C hinGR rfl 3 (by decide) tw_414 rfl dGR_joined_1 rfl (by assumption) rfl ?_
    refine r_lookup (off := 28) (tgt := 32) C dGR_joined_4 (by decide +kernel) (by decide +kernel) (by decide) ?_
    refine r_iload_n (n := 33) C dGR_joined_32 rfl rfl ?_
    refine r_iload_n (n := 34) C dGR_joined_33 rfl rfl ?_
    refine r_mmin (n := 37) C tw_234 tw_138 tw_7 tw_139 (Nat.le_of_ble_eq_true rfl) (Nat.le_of_ble_eq_true rfl) (Nat.zero_le _) (Nat.zero_le _) dGR_joined_34 rfl ?_
    exact r_iret C dGR_joined_37 (Nat.le_refl _) (Nat.le_refl _) ⟨rfl, rfl⟩
  · refine r_aload_n (n := 1) C dGR_joined_0 rfl rfl ?_
    refine r_get (ci := 8) (n := 4) C hinGR rfl 3 (by decide) tw_414 rfl dGR_joined_1 rfl (by assumption) rfl ?_
    refine r_lookup (off := 34) (tgt := 38) C dGR_joined_4 (by decide +kernel) (by decide +kernel) (by decide) ?_
    refine r_iload_n (n := 39) C dGR_joined_38 rfl rfl ?_
    refine r_iload_n (n := 40) C dGR_joined_39 rfl rfl ?_
    refine r_mmax (n := 43) C tw_235 tw_236 tw_7 tw_237 (Nat.le_of_ble_eq_true rfl) (Nat.le_of_ble_eq_true rfl) (Nat.zero_le _) (Nat.zero_le _) dGR_joined_40 rfl ?_
    exact r_iret C dGR_joined_43 (Nat.le_refl _) (Nat.le_refl _) ⟨rfl, rfl⟩
set_option maxHeartbeats 4000000 in
set_option maxRecDepth 100000 in
/-- GroupRule.isFirstOfItsKey -/
theorem c_GR_isFirst (l : Launch) (o : Om) (h : AH) (r : Nat) (A : Nat × Nat × Nat × Nat) (f : Nat → Int32) (g : Nat → Int64) (L : List Rw) (inp key col kd : Nat) (i : Nat) (e : Rw) (hR : RA0 o h A f g L) (hr : h r = some (.inr (8, [.int (nI inp), .int (nI key), .int (nI col), .int (nI kd)]))) (hkey : key < 3) (he : L[i]? = some e) : Mt l o yGR_isFirstOfItsKey cGR_isFirstOfItsKey 4 (some .boolean) ({ frames := 2, cells := 0, slots := 0, locals := 45 } : Room) [.ref r, .ref A.1, .int (nI i)] h (QI o (fun x h' => x = b01 (!((L.take i).any (withB key (colv e.1 key)))) ∧ h' = h)) (0) (0) := by
  refine Met.ofV (by decide) (Nat.le_of_ble_eq_true rfl) (fun K hl ho C => ?_)
  subst hl; subst ho
  have hil := (List.getElem?_eq_some_iff.mp he).1
  have hcl := hR.2.2.2
  have loop : ∀ (m j : Nat), i - j = m → j ≤ i → (L.take j).any (withB key (colv e.1 key)) = false → V K h 0 0 (EndQ K (QI (Ko K) (fun x h' => x = b01 (!((L.take i).any (withB key (colv e.1 key)))) ∧ h' = h)) 0 0) 2 [(0, .ref r), (1, .ref A.1), (2, .int (nI i)), (3, .int (nI j))] [] := by
    intro m
    induction m using Nat.strongRecOn with
    | _ m ih =>
      intro j hm hj hany
      refine r_iload_n (n := 3) C dGR_isFirstOfItsKey_2 rfl rfl ?_
      refine r_iload_n (n := 4) C dGR_isFirstOfItsKey_3 rfl rfl ?_
      refine r_icmp_ge (tgt := 33) (n := 7) C dGR_isFirstOfItsKey_4 (by decide) rfl (fun c_4 => ?_) (fun c_4 => ?_)
      · have hie : j = i := by have := (nI_leI (by omega) (by omega)).mp c_4; omega
        refine r_iconst (v := 1) (n := 34) C dGR_isFirstOfItsKey_33 rfl (by decide) ?_
        exact r_zret C dGR_isFirstOfItsKey_34 rfl (Nat.le_refl _) (Nat.le_refl _) ⟨by rw [hie] at hany; rw [hany]; rfl, rfl⟩
      · have hlt : j < i := by
          rcases Nat.lt_or_ge j i with q | q
          · exact q
          · exact absurd (nI_le q (by omega)) c_4
        obtain ⟨q0, hq0⟩ : ∃ q0, L[j]? = some q0 := ⟨_, List.getElem?_eq_getElem (by omega)⟩
        refine r_aload_n (n := 8) C dGR_isFirstOfItsKey_7 rfl rfl ?_
        refine r_aload_n (n := 9) C dGR_isFirstOfItsKey_8 rfl rfl ?_
        refine r_iload_n (n := 10) C dGR_isFirstOfItsKey_9 rfl rfl ?_
        refine r_aload_n (n := 11) C dGR_isFirstOfItsKey_10 rfl rfl ?_
        refine r_iload_n (n := 12) C dGR_isFirstOfItsKey_11 rfl rfl ?_
        refine r_aload_n (n := 13) C dGR_isFirstOfItsKey_12 rfl rfl ?_
        refine r_get (ci := 8) (n := 16) C hinGR rfl 1 (by decide) tw_412 rfl dGR_isFirstOfItsKey_13 rfl (by assumption) rfl ?_
        refine r_ci (n := 19) (rn_V (z := 2) (ci := 0) (T := TRW) C (c_RW_valueAt (Kl K) (Ko K) h A f g L i key e hR he hkey) tw_217 tw_157 tw_158 tw_2 tw_159 rfl rfl ndRW_valueAt ⟨Nat.le_of_ble_eq_true rfl, Nat.le_of_ble_eq_true rfl⟩ hR.1 rfl rfl rfl (Nat.le_of_ble_eq_true rfl) dGR_isFirstOfItsKey_16 ⟨Nat.le_of_ble_eq_true rfl, Nat.le_of_ble_eq_true rfl⟩) rfl (fun x ah hq => ?_)
        obtain ⟨e1, e2⟩ := hq
        subst e1
        rw [e2]
        refine r_ci (n := 22) (rn_V (z := 3) (ci := 8) (T := TGR) C (c_GR_isWith (Kl K) (Ko K) h r A f g L inp key col kd j q0 (colv e.1 key) hR hr hkey hq0) tw_218 tw_220 ts_8 tw_14 tw_221 rfl rfl ndGR_isWith ⟨Nat.le_of_ble_eq_true rfl, Nat.le_of_ble_eq_true rfl⟩ (by assumption) rfl rfl rfl (Nat.le_of_ble_eq_true rfl) dGR_isFirstOfItsKey_19 ⟨Nat.le_of_ble_eq_true rfl, Nat.le_of_ble_eq_true rfl⟩) rfl (fun x ah hq => ?_)
        obtain ⟨e1, e2⟩ := hq
        subst e1
        rw [e2]
        refine r_if_eq (tgt := 27) (n := 25) C dGR_isFirstOfItsKey_22 (by decide) rfl (fun c_22 => ?_) (fun c_22 => ?_)
        · have hz := b01_f c_22
          refine r_iinc (n := 30) C dGR_isFirstOfItsKey_27 rfl rfl (nI_i j) (by decide) ?_
          refine r_goto (tgt := 2) C dGR_isFirstOfItsKey_30 (by decide) ?_
          refine V.byk (ls' := [(0, .ref r), (1, .ref A.1), (2, .int (nI i)), (3, .int (nI (j + 1)))]) rfl ?_
          exact ih _ (by omega) (j + 1) rfl (by omega) (by rw [any_take hq0, hany, hz]; rfl)
        · have hz := b01_t c_22
          have hany2 : (L.take i).any (withB key (colv e.1 key)) = true := List.any_eq_true.mpr ⟨q0, List.mem_of_getElem? (i := j) (by rw [List.getElem?_take_of_lt hlt]; exact hq0), hz⟩
          refine r_iconst (v := 0) (n := 26) C dGR_isFirstOfItsKey_25 rfl (by decide) ?_
          exact r_zret C dGR_isFirstOfItsKey_26 rfl (Nat.le_refl _) (Nat.le_refl _) ⟨by rw [hany2]; rfl, rfl⟩
  refine r_iconst (v := 0) (n := 1) C dGR_isFirstOfItsKey_0 rfl (by decide) ?_
  refine r_istore_n (n := 2) C dGR_isFirstOfItsKey_1 rfl (by decide) ?_
  refine V.byk (ls' := [(0, .ref r), (1, .ref A.1), (2, .int (nI i)), (3, .int (nI 0))]) rfl ?_
  exact loop _ 0 rfl (Nat.zero_le _) rfl
set_option maxHeartbeats 4000000 in
set_option maxRecDepth 100000 in
/-- GroupRule.valueFrom -/
theorem c_GR_valueFrom (l : Launch) (o : Om) (h : AH) (r : Nat) (A : Nat × Nat × Nat × Nat) (f : Nat → Int32) (g : Nat → Int64) (L : List Rw) (inp key col kd : Nat) (i : Nat) (e : Rw) (hR : RA0 o h A f g L) (hr : h r = some (.inr (8, [.int (nI inp), .int (nI key), .int (nI col), .int (nI kd)]))) (hkey : key < 3) (hcol : col < 3) (hkd : kd < 4) (he : L[i]? = some e) : Mt l o yGR_valueFrom cGR_valueFrom 6 (some .int) ({ frames := 2, cells := 0, slots := 0, locals := 46 } : Room) [.ref r, .ref A.1, .int (nI i)] h (QI o (fun x h' => x = gval kd key col L i e ∧ h' = h)) (0) (0) := by
  refine Met.ofV (by decide) (Nat.le_of_ble_eq_true rfl) (fun K hl ho C => ?_)
  subst hl; subst ho
  have hil := (List.getElem?_eq_some_iff.mp he).1
  have hcl := hR.2.2.2
  have loop : ∀ (m j : Nat) (gv : Int32), L.length - j = m → i + 1 ≤ j → j ≤ L.length → gv = (((L.take j).drop (i + 1)).foldl (gvF kd key col (colv e.1 key)) (startV kd col e)) → V K h 0 0 (EndQ K (QI (Ko K) (fun x h' => x = gval kd key col L i e ∧ h' = h)) 0 0) 23 [(0, .ref r), (1, .ref A.1), (2, .int (nI i)), (3, .int (colv e.1 key)), (4, .int gv), (5, .int (nI j))] [] := by
    intro m
    induction m using Nat.strongRecOn with
    | _ m ih =>
      intro j gv hm hij hj hgv
      refine r_iload (n := 25) C dGR_valueFrom_23 rfl rfl ?_
      refine r_aload_n (n := 26) C dGR_valueFrom_25 rfl rfl ?_
      refine r_ci (n := 29) (rn_V (z := 0) (ci := 0) (T := TRW) C (c_RW_size (Kl K) (Ko K) h A f g L hR) tw_210 tw_145 tw_146 tw_2 tw_147 rfl rfl ndRW_size ⟨Nat.le_of_ble_eq_true rfl, Nat.le_of_ble_eq_true rfl⟩ hR.1 rfl rfl rfl (Nat.le_of_ble_eq_true rfl) dGR_valueFrom_26 ⟨Nat.le_of_ble_eq_true rfl, Nat.le_of_ble_eq_true rfl⟩) rfl (fun x ah hq => ?_)
      obtain ⟨e1, e2⟩ := hq
      subst e1
      rw [e2]
      refine r_icmp_ge (tgt := 64) (n := 32) C dGR_valueFrom_29 (by decide) rfl (fun c_29 => ?_) (fun c_29 => ?_)
      · have hie : j = L.length := by have := (nI_leI (by omega) (by omega)).mp c_29; omega
        refine r_iload (n := 66) C dGR_valueFrom_64 rfl rfl ?_
        exact r_iret C dGR_valueFrom_66 (Nat.le_refl _) (Nat.le_refl _) ⟨by rw [hgv, hie, List.take_length]; rfl, rfl⟩
      · have hlt : j < L.length := by
          rcases Nat.lt_or_ge j L.length with q | q
          · exact q
          · exact absurd (nI_le q (by omega)) c_29
        obtain ⟨q0, hq0⟩ : ∃ q0, L[j]? = some q0 := ⟨_, List.getElem?_eq_getElem hlt⟩
        have hst : (((L.take (j + 1)).drop (i + 1)).foldl (gvF kd key col (colv e.1 key)) (startV kd col e)) = gvF kd key col (colv e.1 key) gv q0 := by rw [drop_take_succ hij hq0, List.foldl_append, ← hgv]; rfl
        refine r_aload_n (n := 33) C dGR_valueFrom_32 rfl rfl ?_
        refine r_aload_n (n := 34) C dGR_valueFrom_33 rfl rfl ?_
        refine r_iload (n := 36) C dGR_valueFrom_34 rfl rfl ?_
        refine r_iload_n (n := 37) C dGR_valueFrom_36 rfl rfl ?_
        refine r_ci (n := 40) (rn_V (z := 3) (ci := 8) (T := TGR) C (c_GR_isWith (Kl K) (Ko K) h r A f g L inp key col kd j q0 (colv e.1 key) hR hr hkey hq0) tw_218 tw_220 ts_8 tw_14 tw_221 rfl rfl ndGR_isWith ⟨Nat.le_of_ble_eq_true rfl, Nat.le_of_ble_eq_true rfl⟩ (by assumption) rfl rfl rfl (Nat.le_of_ble_eq_true rfl) dGR_valueFrom_37 ⟨Nat.le_of_ble_eq_true rfl, Nat.le_of_ble_eq_true rfl⟩) rfl (fun x ah hq => ?_)
        obtain ⟨e1, e2⟩ := hq
        subst e1
        rw [e2]
        refine r_if_eq (tgt := 58) (n := 43) C dGR_valueFrom_40 (by decide) rfl (fun c_40 => ?_) (fun c_40 => ?_)
        · have hz := b01_f c_40
          refine r_iinc (n := 61) C dGR_valueFrom_58 rfl rfl (nI_i j) (by decide) ?_
          refine r_goto (tgt := 23) C dGR_valueFrom_61 (by decide) ?_
          refine V.byk (ls' := [(0, .ref r), (1, .ref A.1), (2, .int (nI i)), (3, .int (colv e.1 key)), (4, .int gv), (5, .int (nI (j + 1)))]) rfl ?_
          exact ih _ (by omega) (j + 1) gv rfl (by omega) (by omega) (by rw [hst]; unfold gvF; rw [hz]; rfl)
        · have hz := b01_t c_40
          refine r_aload_n (n := 44) C dGR_valueFrom_43 rfl rfl ?_
          refine r_iload (n := 46) C dGR_valueFrom_44 rfl rfl ?_
          refine r_aload_n (n := 47) C dGR_valueFrom_46 rfl rfl ?_
          refine r_aload_n (n := 48) C dGR_valueFrom_47 rfl rfl ?_
          refine r_iload (n := 50) C dGR_valueFrom_48 rfl rfl ?_
          refine r_ci (n := 53) (rn_V (z := 2) (ci := 8) (T := TGR) C (c_GR_startValue (Kl K) (Ko K) h r A f g L inp key col kd j q0 hR hr hcol hkd hq0) tw_226 tw_228 ts_10 tw_14 tw_229 rfl rfl ndGR_startValue ⟨Nat.le_of_ble_eq_true rfl, Nat.le_of_ble_eq_true rfl⟩ (by assumption) rfl rfl rfl (Nat.le_of_ble_eq_true rfl) dGR_valueFrom_50 ⟨Nat.le_of_ble_eq_true rfl, Nat.le_of_ble_eq_true rfl⟩) rfl (fun x ah hq => ?_)
          obtain ⟨e1, e2⟩ := hq
          subst e1
          rw [e2]
          refine r_ci (n := 56) (rn_V (z := 2) (ci := 8) (T := TGR) C (c_GR_joined (Kl K) (Ko K) h r inp key col kd gv (startV kd col q0) hr hkd) tw_230 tw_232 ts_11 tw_14 tw_233 rfl rfl ndGR_joined ⟨Nat.le_of_ble_eq_true rfl, Nat.le_of_ble_eq_true rfl⟩ (by assumption) rfl rfl rfl (Nat.le_of_ble_eq_true rfl) dGR_valueFrom_53 ⟨Nat.le_of_ble_eq_true rfl, Nat.le_of_ble_eq_true rfl⟩) rfl (fun x ah hq => ?_)
          obtain ⟨e1, e2⟩ := hq
          subst e1
          rw [e2]
          refine r_istore (n := 58) C dGR_valueFrom_56 rfl (by decide) ?_
          refine r_iinc (n := 61) C dGR_valueFrom_58 rfl rfl (nI_i j) (by decide) ?_
          refine r_goto (tgt := 23) C dGR_valueFrom_61 (by decide) ?_
          refine V.byk (ls' := [(0, .ref r), (1, .ref A.1), (2, .int (nI i)), (3, .int (colv e.1 key)), (4, .int (joinV kd gv (startV kd col q0))), (5, .int (nI (j + 1)))]) rfl ?_
          exact ih _ (by omega) (j + 1) _ rfl (by omega) (by omega) (by rw [hst]; unfold gvF; rw [hz]; rfl)
  refine r_aload_n (n := 1) C dGR_valueFrom_0 rfl rfl ?_
  refine r_iload_n (n := 2) C dGR_valueFrom_1 rfl rfl ?_
  refine r_aload_n (n := 3) C dGR_valueFrom_2 rfl rfl ?_
  refine r_get (ci := 8) (n := 6) C hinGR rfl 1 (by decide) tw_412 rfl dGR_valueFrom_3 rfl (by assumption) rfl ?_
  refine r_ci (n := 9) (rn_V (z := 2) (ci := 0) (T := TRW) C (c_RW_valueAt (Kl K) (Ko K) h A f g L i key e hR he hkey) tw_217 tw_157 tw_158 tw_2 tw_159 rfl rfl ndRW_valueAt ⟨Nat.le_of_ble_eq_true rfl, Nat.le_of_ble_eq_true rfl⟩ hR.1 rfl rfl rfl (Nat.le_of_ble_eq_true rfl) dGR_valueFrom_6 ⟨Nat.le_of_ble_eq_true rfl, Nat.le_of_ble_eq_true rfl⟩) rfl (fun x ah hq => ?_)
  obtain ⟨e1, e2⟩ := hq
  subst e1
  rw [e2]
  refine r_istore_n (n := 10) C dGR_valueFrom_9 rfl (by decide) ?_
  refine r_aload_n (n := 11) C dGR_valueFrom_10 rfl rfl ?_
  refine r_aload_n (n := 12) C dGR_valueFrom_11 rfl rfl ?_
  refine r_iload_n (n := 13) C dGR_valueFrom_12 rfl rfl ?_
  refine r_ci (n := 16) (rn_V (z := 2) (ci := 8) (T := TGR) C (c_GR_startValue (Kl K) (Ko K) h r A f g L inp key col kd i e hR hr hcol hkd he) tw_226 tw_228 ts_10 tw_14 tw_229 rfl rfl ndGR_startValue ⟨Nat.le_of_ble_eq_true rfl, Nat.le_of_ble_eq_true rfl⟩ (by assumption) rfl rfl rfl (Nat.le_of_ble_eq_true rfl) dGR_valueFrom_13 ⟨Nat.le_of_ble_eq_true rfl, Nat.le_of_ble_eq_true rfl⟩) rfl (fun x ah hq => ?_)
  obtain ⟨e1, e2⟩ := hq
  subst e1
  rw [e2]
  refine r_istore (n := 18) C dGR_valueFrom_16 rfl (by decide) ?_
  refine r_iload_n (n := 19) C dGR_valueFrom_18 rfl rfl ?_
  refine r_iconst (v := 1) (n := 20) C dGR_valueFrom_19 rfl (by decide) ?_
  refine r_iadd (n := 21) C dGR_valueFrom_20 rfl ?_
  refine V.eqi (nI_1 i) ?_
  refine r_istore (n := 23) C dGR_valueFrom_21 rfl (by decide) ?_
  refine V.byk (ls' := [(0, .ref r), (1, .ref A.1), (2, .int (nI i)), (3, .int (colv e.1 key)), (4, .int (startV kd col e)), (5, .int (nI (i + 1)))]) rfl ?_
  exact loop _ (i + 1) _ rfl (Nat.le_refl _) (by omega) (by rw [List.drop_eq_nil_of_le (by rw [List.length_take]; omega)]; rfl)
set_option maxHeartbeats 4000000 in
set_option maxRecDepth 100000 in
/-- GroupRule.fill -/
theorem c_GR_fill (l : Launch) (o : Om) (h : AH) (s r : Nat) (S : Nat → Nat × Nat × Nat × Nat) (Ls : Nat → List Rw) (wk : Nat × Nat × Nat × Nat) (f : Nat → Int32) (g : Nat → Int64) (inp key col kd : Nat) (hF : FP o h s S Ls wk) (hW : RA0 o h wk f g []) (hcw : wk.2.2.2 = 576) (hinp : inp < 13) (hkey : key < 3) (hcol : col < 3) (hkd : kd < 4) (hr : h r = some (.inr (8, [.int (nI inp), .int (nI key), .int (nI col), .int (nI kd)]))) : Mt l o yGR_fill cGR_fill 5 none ({ frames := 3, cells := 0, slots := 0, locals := 101 } : Room) [.ref r, .ref s, .ref wk.1] h (QV o (fun h' => ∃ f' g', RA0 o h' wk f' g' ((GRi kd key col (Ls inp) (Ls inp).length)) ∧ Off wk h h')) (0) (0) := by
  refine Met.ofV (by decide) (Nat.le_of_ble_eq_true rfl) (fun K hl ho C => ?_)
  subst hl; subst ho
  obtain ⟨fs, hs, hsl⟩ := hF.1
  obtain ⟨hfi, fi, gi, hRi⟩ := hsl inp hinp
  obtain ⟨dj, hsi, hli⟩ := hF.2 inp hinp
  have hM : (Ls inp).length ≤ 24 := hli
  have loop : ∀ (m i : Nat) (h1 : AH) (f1 : Nat → Int32) (g1 : Nat → Int64), (Ls inp).length - i = m → i ≤ (Ls inp).length → RA0 (Ko K) h1 wk f1 g1 (GRi kd key col (Ls inp) i) → Off wk h h1 → V K h1 0 0 (EndQ K (QV (Ko K) (fun h' => ∃ f' g', RA0 (Ko K) h' wk f' g' ((GRi kd key col (Ls inp) (Ls inp).length)) ∧ Off wk h h')) 0 0) 10 [(0, .ref r), (1, .ref s), (2, .ref wk.1), (3, .ref (S inp).1), (4, .int (nI i))] [] := by
    intro m
    induction m using Nat.strongRecOn with
    | _ m ih =>
      intro i h1 f1 g1 hm hi hR1 hO1
      have hb1 := hR1.1
      have hIn := RA0.keep hW hRi dj hO1
      have hbi := hIn.1
      have hr1 := obj_keep hW hr (by decide) hO1
      have hl1 := GRi_len kd key col (Ls inp) i
      refine r_iload (n := 12) C dGR_fill_10 rfl rfl ?_
      refine r_aload_n (n := 13) C dGR_fill_12 rfl rfl ?_
      refine r_ci (n := 16) (rn_V (z := 0) (ci := 0) (T := TRW) C (c_RW_size (Kl K) (Ko K) h1 (S inp) fi gi (Ls inp) hIn) tw_210 tw_145 tw_146 tw_2 tw_147 rfl rfl ndRW_size ⟨Nat.le_of_ble_eq_true rfl, Nat.le_of_ble_eq_true rfl⟩ (by assumption) rfl rfl rfl (Nat.le_of_ble_eq_true rfl) dGR_fill_13 ⟨Nat.le_of_ble_eq_true rfl, Nat.le_of_ble_eq_true rfl⟩) rfl (fun x ah hq => ?_)
      obtain ⟨e1, e2⟩ := hq
      subst e1
      rw [e2]
      refine r_icmp_ge (tgt := 69) (n := 19) C dGR_fill_16 (by decide) rfl (fun c_16 => ?_) (fun c_16 => ?_)
      · have hie : i = (Ls inp).length := by have := (nI_leI (by omega) (by omega)).mp c_16; omega
        exact r_vret C dGR_fill_69 (Nat.le_refl _) (Nat.le_refl _) ⟨f1, g1, by rw [hie] at hR1; exact hR1, hO1⟩
      · have hlt : i < (Ls inp).length := by
          rcases Nat.lt_or_ge i (Ls inp).length with q | q
          · exact q
          · exact absurd (nI_le q (by omega)) c_16
        obtain ⟨e, he⟩ : ∃ e, (Ls inp)[i]? = some e := ⟨_, List.getElem?_eq_getElem hlt⟩
        refine r_aload_n (n := 20) C dGR_fill_19 rfl rfl ?_
        refine r_iload (n := 22) C dGR_fill_20 rfl rfl ?_
        refine r_cl (n := 25) (rn_V (z := 1) (ci := 0) (T := TRW) C (c_RW_weightAt (Kl K) (Ko K) h1 (S inp) fi gi (Ls inp) i e hIn he) tw_211 tw_149 tw_150 tw_2 tw_151 rfl rfl ndRW_weightAt ⟨Nat.le_of_ble_eq_true rfl, Nat.le_of_ble_eq_true rfl⟩ (by assumption) rfl rfl rfl (Nat.le_of_ble_eq_true rfl) dGR_fill_22 ⟨Nat.le_of_ble_eq_true rfl, Nat.le_of_ble_eq_true rfl⟩) rfl (fun x ah hq => ?_)
        obtain ⟨e1, e2⟩ := hq
        subst e1
        rw [e2]
        refine r_lconst (v := 0) (n := 26) C dGR_fill_25 rfl (by decide) ?_
        refine r_lcmp (n := 27) C dGR_fill_26 rfl ?_
        refine r_if_le (tgt := 63) (n := 30) C dGR_fill_27 (by decide) rfl (fun c_27 => ?_) (fun c_27 => ?_)
        · have hz : ¬ 0 < e.2 := Int64.not_lt.mpr ((lg_cmp_le _ _).mp c_27)
          refine r_iinc (n := 66) C dGR_fill_63 rfl rfl (nI_i i) (by decide) ?_
          refine r_goto (tgt := 10) C dGR_fill_66 (by decide) ?_
          refine V.byk (ls' := [(0, .ref r), (1, .ref s), (2, .ref wk.1), (3, .ref (S inp).1), (4, .int (nI (i + 1)))]) rfl ?_
          exact ih _ (by omega) (i + 1) h1 f1 g1 rfl (by omega) (by unfold GRi; rw [he]; simp only [hz, false_and, if_false]; exact hR1) hO1
        · have hz : 0 < e.2 := Int64.not_le.mp (fun q => c_27 ((lg_cmp_le _ _).mpr q))
          refine r_aload_n (n := 31) C dGR_fill_30 rfl rfl ?_
          refine r_aload_n (n := 32) C dGR_fill_31 rfl rfl ?_
          refine r_iload (n := 34) C dGR_fill_32 rfl rfl ?_
          refine r_ci (n := 37) (rn_V (z := 2) (ci := 8) (T := TGR) C (c_GR_isFirst (Kl K) (Ko K) h1 r (S inp) fi gi (Ls inp) inp key col kd i e hIn hr1 hkey he) tw_212 tw_214 ts_7 tw_14 tw_216 rfl rfl ndGR_isFirstOfItsKey ⟨Nat.le_of_ble_eq_true rfl, Nat.le_of_ble_eq_true rfl⟩ (by assumption) rfl rfl rfl (Nat.le_of_ble_eq_true rfl) dGR_fill_34 ⟨Nat.le_of_ble_eq_true rfl, Nat.le_of_ble_eq_true rfl⟩) rfl (fun x ah hq => ?_)
          obtain ⟨e1, e2⟩ := hq
          subst e1
          rw [e2]
          refine r_if_eq (tgt := 63) (n := 40) C dGR_fill_37 (by decide) rfl (fun c_37 => ?_) (fun c_37 => ?_)
          · have hy : ((Ls inp).take i).any (withB key (colv e.1 key)) = true := by have := b01_f c_37; simpa using this
            refine r_iinc (n := 66) C dGR_fill_63 rfl rfl (nI_i i) (by decide) ?_
            refine r_goto (tgt := 10) C dGR_fill_66 (by decide) ?_
            refine V.byk (ls' := [(0, .ref r), (1, .ref s), (2, .ref wk.1), (3, .ref (S inp).1), (4, .int (nI (i + 1)))]) rfl ?_
            exact ih _ (by omega) (i + 1) h1 f1 g1 rfl (by omega) (by unfold GRi; rw [he]; simp only [hy]; rw [if_neg (fun q => Bool.noConfusion q.2)]; exact hR1) hO1
          · have hy : ((Ls inp).take i).any (withB key (colv e.1 key)) = false := by have := b01_t c_37; simpa using this
            refine r_aload_n (n := 41) C dGR_fill_40 rfl rfl ?_
            refine r_aload_n (n := 42) C dGR_fill_41 rfl rfl ?_
            refine r_iload (n := 44) C dGR_fill_42 rfl rfl ?_
            refine r_aload_n (n := 45) C dGR_fill_44 rfl rfl ?_
            refine r_get (ci := 8) (n := 48) C hinGR rfl 1 (by decide) tw_412 rfl dGR_fill_45 rfl (by assumption) rfl ?_
            refine r_ci (n := 51) (rn_V (z := 2) (ci := 0) (T := TRW) C (c_RW_valueAt (Kl K) (Ko K) h1 (S inp) fi gi (Ls inp) i key e hIn he hkey) tw_217 tw_157 tw_158 tw_2 tw_159 rfl rfl ndRW_valueAt ⟨Nat.le_of_ble_eq_true rfl, Nat.le_of_ble_eq_true rfl⟩ (by assumption) rfl rfl rfl (Nat.le_of_ble_eq_true rfl) dGR_fill_48 ⟨Nat.le_of_ble_eq_true rfl, Nat.le_of_ble_eq_true rfl⟩) rfl (fun x ah hq => ?_)
            obtain ⟨e1, e2⟩ := hq
            subst e1
            rw [e2]
            refine r_aload_n (n := 52) C dGR_fill_51 rfl rfl ?_
            refine r_aload_n (n := 53) C dGR_fill_52 rfl rfl ?_
            refine r_iload (n := 55) C dGR_fill_53 rfl rfl ?_
            refine r_ci (n := 58) (rn_V (z := 2) (ci := 8) (T := TGR) C (c_GR_valueFrom (Kl K) (Ko K) h1 r (S inp) fi gi (Ls inp) inp key col kd i e hIn hr1 hkey hcol hkd he) tw_222 tw_224 ts_9 tw_14 tw_225 rfl rfl ndGR_valueFrom ⟨Nat.le_of_ble_eq_true rfl, Nat.le_of_ble_eq_true rfl⟩ (by assumption) rfl rfl rfl (Nat.le_of_ble_eq_true rfl) dGR_fill_55 ⟨Nat.le_of_ble_eq_true rfl, Nat.le_of_ble_eq_true rfl⟩) rfl (fun x ah hq => ?_)
            obtain ⟨e1, e2⟩ := hq
            subst e1
            rw [e2]
            refine r_iconst (v := 0) (n := 59) C dGR_fill_58 rfl (by decide) ?_
            refine r_lconst (v := 1) (n := 60) C dGR_fill_59 rfl (by decide) ?_
            refine r_cv (n := 63) (rn_V (z := 4) (ci := 0) (T := TRW) C (c_RW_addWeight (Kl K) (Ko K) h1 wk f1 g1 _ (colv e.1 key) (gval kd key col (Ls inp) i e) 0 1 hR1 (GRi_srt _ _ _ _ _) (by omega)) tw_238 tw_161 tw_162 tw_2 tw_163 rfl rfl ndRW_addWeight ⟨Nat.le_of_ble_eq_true rfl, Nat.le_of_ble_eq_true rfl⟩ hb1 rfl rfl rfl (Nat.le_of_ble_eq_true rfl) dGR_fill_60 ⟨Nat.le_of_ble_eq_true rfl, Nat.le_of_ble_eq_true rfl⟩) rfl (fun h2 hq => ?_)
            obtain ⟨f2, g2, hR2, hO2⟩ := hq
            refine r_iinc (n := 66) C dGR_fill_63 rfl rfl (nI_i i) (by decide) ?_
            refine r_goto (tgt := 10) C dGR_fill_66 (by decide) ?_
            refine V.byk (ls' := [(0, .ref r), (1, .ref s), (2, .ref wk.1), (3, .ref (S inp).1), (4, .int (nI (i + 1)))]) rfl ?_
            exact ih _ (by omega) (i + 1) h2 f2 g2 rfl (by omega) (by unfold GRi; rw [he]; show RA0 _ h2 wk f2 g2 (if 0 < e.2 ∧ _ then _ else _); rw [if_pos ⟨hz, hy⟩]; exact hR2) (hO1.tr hO2)
  refine r_aload_n (n := 1) C dGR_fill_0 rfl rfl ?_
  refine r_aload_n (n := 2) C dGR_fill_1 rfl rfl ?_
  refine r_get (ci := 8) (n := 5) C hinGR rfl 0 (by decide) tw_411 rfl dGR_fill_2 rfl (by assumption) rfl ?_
  refine r_aald (n := 6) (t0 := 2) C dGR_fill_5 rfl (by assumption) rfl inp rfl (by omega) (by omega) hfi ?_
  refine r_astore_n (n := 7) C dGR_fill_6 rfl (by decide) ?_
  refine r_iconst (v := 0) (n := 8) C dGR_fill_7 rfl (by decide) ?_
  refine r_istore (n := 10) C dGR_fill_8 rfl (by decide) ?_
  refine V.byk (ls' := [(0, .ref r), (1, .ref s), (2, .ref wk.1), (3, .ref (S inp).1), (4, .int (nI 0))]) rfl ?_
  exact loop _ 0 h f g rfl (Nat.zero_le _) hW Off.rf
end
section
/-! DELTAVIEWS: its cells (a layout G), its state -/
theorem r_aastO {K : Kx} {h : AH} {cells slots : Nat} {Q : State → Prop} {pc n : Nat} {ls : List (Nat × Value)} {st : List Value} {cc : ByteArray} {nL : Nat} {own nm : String} {rm : Room} {ret : Option FieldType} {i : Int32} {a N t0 ci v : Nat} {cA : ClassId} {E : String} {r : vw_C} {vs : List Value} {f : Nat → Option Nat} (C : Cx K cc nL own rm ret nm) (d : decode cc pc = .ok (.aastore, 1)) (hn : pc + 1 = n) (ha : h a = some (.inl (cA, N, .inr (.inr (.inr (.inr f)))))) (hv : h v = some (.inr (ci, vs))) (hc : vwCl[ci]? = some r) (ht : (xk_tys (Ko K))[t0]? = some (cA, .object E)) (hca : va_Nw (.castable r.1 E) (Ks K)) (j : Nat) (hi : i = nI j) (hj : j < N) (hN : N < 2147483648) (k : V K (hu h a (.inl (cA, N, .inr (.inr (.inr (.inr (va_up f j (some v)))))))) cells slots Q n ls st) : V K h cells slots Q pc ls (.ref v :: .int i :: .ref a :: st) := by
  subst hn
  intro H locs la hp hS hl
  obtain ⟨ws, hP, hD, hh⟩ := id hp
  obtain ⟨q0, hq⟩ := hh a _ ha
  obtain ⟨q1, hq1⟩ := hh v _ hv
  refine va_astqO C.1.1 C.1.2.1 C.2.1 hP hD hS q0 t0 q1 ci hq ht hca hq1 hc (xk_in hi hj hN) d (fun H1 locs1 hP1 hD1 hS1 => ?_)
  rw [xk_cl hi hj hN] at hP1 hD1
  exact k H1 locs1 la ⟨_, hP1, hD1, Hp.set hD hq hh⟩ hS1 hl
abbrev Qd : Type := Nat × Nat × Nat × Nat
def ownA (A : Qd) (q : Nat) : Prop := q = A.1 ∨ q = A.2.1 ∨ q = A.2.2.1
def ownP (P : Qd) (q : Nat) : Prop := q = P.1 ∨ q = P.2.1 ∨ q = P.2.2.1 ∨ q = P.2.2.2
def Frm (X : Nat → Prop) (h h' : AH) : Prop := ∀ q : Nat, ¬ X q → h' q = h q
theorem Frm.rf {X : Nat → Prop} {h : AH} : Frm X h h := fun _ _ => rfl
theorem Frm.tr {X : Nat → Prop} {h h1 h2 : AH} (a : Frm X h h1) (b : Frm X h1 h2) : Frm X h h2 := fun q hq => (b q hq).trans (a q hq)
theorem Frm.mono {X Y : Nat → Prop} {h h1 : AH} (a : Frm X h h1) (hXY : ∀ q, X q → Y q) : Frm Y h h1 := fun q hq => a q (fun z => hq (hXY q z))
theorem Off.frm {A : Qd} {h h' : AH} (off : Off A h h') : Frm (ownA A) h h' := fun q hq => off q (fun e => hq (Or.inl e)) (fun e => hq (Or.inr (Or.inl e))) (fun e => hq (Or.inr (Or.inr e)))
theorem POff.frm {P : Qd} {h h' : AH} (off : POff P h h') : Frm (ownP P) h h' := fun q hq => off q (fun e => hq (Or.inl e)) (fun e => hq (Or.inr (Or.inl e))) (fun e => hq (Or.inr (Or.inr (Or.inl e)))) (fun e => hq (Or.inr (Or.inr (Or.inr e))))
theorem hu_frm {h : AH} {a : Nat} {x : va_E} : Frm (fun q => q = a) h (hu h a x) := fun _ hq => hu_ne _ _ hq
section NOWN
variable {o : Om} {h h' : AH} {A B P : Qd} {L M : List Rw} {pl : List Pn} {r ci n : Nat} {fs : List Value} {c : ClassId} {X : Nat → Prop}
theorem nown_obj (hA : RA o h A L) (hr : h r = some (.inr (ci, fs))) (hc : ci ≠ 0) : ¬ ownA A r := by
  obtain ⟨f, g, a1, a2, a3, -, -, -⟩ := hA
  rintro (e | e | e)
  · rw [e, a1] at hr; simp at hr; exact hc hr.1.symm
  · rw [e, a2] at hr; simp at hr
  · rw [e, a3] at hr; simp at hr
theorem nown_q {f : Nat → Option Nat} (hA : RA o h A L) (hr : h r = some (.inl (c, n, .inr (.inr (.inr (.inr f)))))) : ¬ ownA A r := by
  obtain ⟨f, g, a1, a2, a3, -, -, -⟩ := hA
  rintro (e | e | e)
  · rw [e, a1] at hr; simp at hr
  · rw [e, a2] at hr; simp at hr
  · rw [e, a3] at hr; simp at hr
theorem nown_i {f : Nat → Int32} (hA : RA o h A L) (hr : h r = some (.inl (c, n, .inl f))) (ne : r ≠ A.2.1) : ¬ ownA A r := by
  obtain ⟨f, g, a1, a2, a3, -, -, -⟩ := hA
  rintro (e | e | e)
  · rw [e, a1] at hr; simp at hr
  · exact ne e
  · rw [e, a3] at hr; simp at hr
theorem RA.nown (hA : RA o h A L) (hB : RA o h B M) (dj : Dj A B) : ∀ q, ownA B q → ¬ ownA A q := by
  obtain ⟨f, g, a1, a2, a3, -, -, -⟩ := hA
  obtain ⟨f', g', b1, b2, b3, -, -, -⟩ := hB
  rintro q (e | e | e) (z | z | z) <;> rw [e] at z
  · exact dj.1 z.symm
  · rw [z, a2] at b1; simp at b1
  · rw [z, a3] at b1; simp at b1
  · rw [z, a1] at b2; simp at b2
  · exact dj.2.1 z.symm
  · rw [z, a3] at b2; simp at b2
  · rw [z, a1] at b3; simp at b3
  · rw [z, a2] at b3; simp at b3
  · exact dj.2.2 z.symm
theorem RA.nownP (hA : RA o h A L) (hP : PA o h P pl) (d : PD P A) : ∀ q, ownP P q → ¬ ownA A q := by
  obtain ⟨f, g, a1, a2, a3, -, -, -⟩ := hA
  obtain ⟨_, _, _, b1, b2, b3, b4, -, -, -⟩ := hP
  rintro q (e | e | e | e) (z | z | z) <;> rw [e] at z
  · rw [z, a1] at b1; simp at b1
  · rw [z, a2] at b1; simp at b1
  · rw [z, a3] at b1; simp at b1
  · rw [z, a1] at b2; simp at b2
  · exact d.1 z
  · rw [z, a3] at b2; simp at b2
  · rw [z, a1] at b3; simp at b3
  · exact d.2.1 z
  · rw [z, a3] at b3; simp at b3
  · rw [z, a1] at b4; simp at b4
  · exact d.2.2 z
  · rw [z, a3] at b4; simp at b4
theorem nownP_obj (hP : PA o h P pl) (hr : h r = some (.inr (ci, fs))) (hc : ci ≠ 1) : ¬ ownP P r := by
  obtain ⟨_, _, _, b1, b2, b3, b4, -, -, -⟩ := hP
  rintro (e | e | e | e)
  · rw [e, b1] at hr; simp at hr; exact hc hr.1.symm
  · rw [e, b2] at hr; simp at hr
  · rw [e, b3] at hr; simp at hr
  · rw [e, b4] at hr; simp at hr
theorem nownP_q {f : Nat → Option Nat} (hP : PA o h P pl) (hr : h r = some (.inl (c, n, .inr (.inr (.inr (.inr f)))))) : ¬ ownP P r := by
  obtain ⟨_, _, _, b1, b2, b3, b4, -, -, -⟩ := hP
  rintro (e | e | e | e)
  · rw [e, b1] at hr; simp at hr
  · rw [e, b2] at hr; simp at hr
  · rw [e, b3] at hr; simp at hr
  · rw [e, b4] at hr; simp at hr
theorem RA.frm (hB : RA o h B M) (hX : ∀ q, ownA B q → ¬ X q) (hf : Frm X h h') : RA o h' B M := by
  obtain ⟨f, g, b1, b2, b3, b4⟩ := hB
  exact ⟨f, g, (hf _ (hX _ (Or.inl rfl))).trans b1, (hf _ (hX _ (Or.inr (Or.inl rfl)))).trans b2, (hf _ (hX _ (Or.inr (Or.inr rfl)))).trans b3, b4⟩
theorem PA.frm (hP : PA o h P pl) (hX : ∀ q, ownP P q → ¬ X q) (hf : Frm X h h') : PA o h' P pl := by
  obtain ⟨f, g, k, b1, b2, b3, b4, b5⟩ := hP
  exact ⟨f, g, k, (hf _ (hX _ (Or.inl rfl))).trans b1, (hf _ (hX _ (Or.inr (Or.inl rfl)))).trans b2, (hf _ (hX _ (Or.inr (Or.inr (Or.inl rfl))))).trans b3, (hf _ (hX _ (Or.inr (Or.inr (Or.inr rfl))))).trans b4, b5⟩
theorem SA.frm {s : Nat} {S : Nat → Qd} {Ls : Nat → List Rw} (hS : SA o h s S Ls) (hs : ¬ X s) (hX : ∀ i, i < 13 → ∀ q, ownA (S i) q → ¬ X q) (hf : Frm X h h') : SA o h' s S Ls := by
  obtain ⟨fs, h1, h2⟩ := hS
  exact ⟨fs, (hf _ hs).trans h1, fun i hi => ⟨(h2 i hi).1, (h2 i hi).2.frm (hX i hi) hf⟩⟩
end NOWN
theorem Dj.symm {A B : Qd} (h : Dj A B) : Dj B A := ⟨h.1.symm, h.2.1.symm, h.2.2.symm⟩
def updL (Ls : Nat → List Rw) (k : Nat) (N : List Rw) : Nat → List Rw := fun i => if i = k then N else Ls i
/-- a rule: its kind, numbers, and the number of a filter -/
abbrev Ru : Type := Nat × Nat × Nat × Nat × Nat × Nat × Int32
def rcell (R : Ru) : va_E := match R with
  | (0, a, _, _, _, _, _) => .inr (2, [.int (nI a)])
  | (1, a, b, c, _, _, n) => .inr (3, [.int (nI a), .int (nI b), .int (nI c), .int n])
  | (2, a, b, c, d, _, _) => .inr (4, [.int (nI a), .int (nI b), .int (nI c), .int (nI d)])
  | (3, a, b, c, d, e, _) => .inr (5, [.int (nI a), .int (nI b), .int (nI c), .int (nI d), .int (nI e)])
  | (4, a, b, c, _, _, _) => .inr (6, [.int (nI a), .int (nI b), .int (nI c)])
  | (5, a, _, _, _, _, _) => .inr (7, [.int (nI a)])
  | (_, a, b, c, d, _, _) => .inr (8, [.int (nI a), .int (nI b), .int (nI c), .int (nI d)])
/-- its numbers are in range; its inputs are slots before j -/
def rok (j : Nat) (R : Ru) : Prop := match R with
  | (0, a, _, _, _, _, _) => a < 3
  | (1, a, b, c, _, _, _) => 3 ≤ a ∧ a < j ∧ b < 3 ∧ c < 4
  | (2, a, b, c, d, _, _) => 3 ≤ a ∧ a < j ∧ b < 6 ∧ c < 6 ∧ d < 6
  | (3, a, b, c, d, e, _) => 3 ≤ a ∧ a < j ∧ 3 ≤ b ∧ b < j ∧ c < 3 ∧ d < 3 ∧ e < 216
  | (4, a, b, c, _, _, _) => 3 ≤ a ∧ a < j ∧ 3 ≤ b ∧ b < j ∧ c < 2
  | (5, a, _, _, _, _, _) => 3 ≤ a ∧ a < j
  | (6, a, b, c, d, _, _) => 3 ≤ a ∧ a < j ∧ b < 3 ∧ c < 3 ∧ d < 4
  | _ => False
def rfill (R : Ru) (Ls : Nat → List Rw) : List Rw := match R with
  | (0, a, _, _, _, _, _) => Ls a
  | (1, a, b, c, _, _, n) => (Ls a).foldl (FRf b c n) []
  | (2, a, b, c, d, _, _) => (Ls a).foldl (MRf b c d) []
  | (3, a, b, c, d, e, _) => (Ls a).foldl (JO c d (e / 36) (e / 6 % 6) (e % 6) (Ls b)) []
  | (4, a, b, c, _, _, _) => (Ls b).foldl (CRf (sgF c)) (Ls a)
  | (5, a, _, _, _, _, _) => (Ls a).foldl DRf []
  | (_, a, b, c, d, _, _) => GRi d b c (Ls a) (Ls a).length
/-- the layout: the slots' arrays, the rules' array, changedRows, work, pending, the slots of both sides -/
abbrev Gh : Type := Nat × Nat × Nat × Nat × Qd × Qd × (Nat → Qd) × (Nat → Qd)
abbrev gnw (G : Gh) : Nat := G.1
abbrev gnx (G : Gh) : Nat := G.2.1
abbrev gru (G : Gh) : Nat := G.2.2.1
abbrev gch (G : Gh) : Nat := G.2.2.2.1
abbrev gwk (G : Gh) : Qd := G.2.2.2.2.1
abbrev gP (G : Gh) : Qd := G.2.2.2.2.2.1
abbrev gS (G : Gh) : Nat → Qd := G.2.2.2.2.2.2.1
abbrev gT (G : Gh) : Nat → Qd := G.2.2.2.2.2.2.2
def sw (G : Gh) : Gh := (gnx G, gnw G, gru G, gch G, gwk G, gP G, gT G, gS G)
def capOf (i : Nat) : Nat := if i < 3 then 12 else 24
/-- its cells are apart -/
def GD (G : Gh) : Prop := (∀ i, i < 13 → ∀ j, j < 13 → i ≠ j → Dj (gS G i) (gS G j)) ∧ (∀ i, i < 13 → ∀ j, j < 13 → i ≠ j → Dj (gT G i) (gT G j)) ∧ (∀ i, i < 13 → ∀ j, j < 13 → Dj (gS G i) (gT G j)) ∧ (∀ i, i < 13 → Dj (gwk G) (gS G i)) ∧ (∀ i, i < 13 → Dj (gwk G) (gT G i)) ∧ PD (gP G) (gwk G) ∧ (∀ i, i < 13 → PD (gP G) (gS G i)) ∧ (∀ i, i < 13 → PD (gP G) (gT G i)) ∧ (gch G ≠ (gwk G).2.1 ∧ (∀ i, i < 13 → gch G ≠ (gS G i).2.1) ∧ (∀ i, i < 13 → gch G ≠ (gT G i).2.1) ∧ ¬ ownP (gP G) (gch G)) ∧ (gnw G ≠ gnx G ∧ gru G ≠ gnw G ∧ gru G ≠ gnx G) ∧ (gwk G).2.2.2 = 576 ∧ (∀ i, i < 13 → (gS G i).2.2.2 = capOf i) ∧ (∀ i, i < 13 → (gT G i).2.2.2 = capOf i)
theorem GD.sw {G : Gh} (g : GD G) : GD (sw G) := by
  obtain ⟨a1, a2, a3, a4, a5, a6, a7, a8, ⟨a9, a10, a11, a12⟩, ⟨a13, a14, a15⟩, a16, a17, a18⟩ := g
  exact ⟨a2, a1, fun i hi j hj => (a3 j hj i hi).symm, a5, a4, a6, a8, a7, ⟨a9, a11, a10, a12⟩, ⟨a13.symm, a15, a14⟩, a16, a18, a17⟩
def ownG (G : Gh) (q : Nat) : Prop := q = gnw G ∨ q = gnx G ∨ q = gru G ∨ q = gch G ∨ ownA (gwk G) q ∨ ownP (gP G) q ∨ (∃ i, i < 13 ∧ ownA (gS G i) q) ∨ (∃ i, i < 13 ∧ ownA (gT G i) q)
theorem ownG.sw {G : Gh} {q : Nat} (h : ownG (sw G) q) : ownG G q := by
  rcases h with h | h | h | h | h | h | h | h
  · exact Or.inr (Or.inl h)
  · exact Or.inl h
  · exact Or.inr (Or.inr (Or.inl h))
  · exact Or.inr (Or.inr (Or.inr (Or.inl h)))
  · exact Or.inr (Or.inr (Or.inr (Or.inr (Or.inl h))))
  · exact Or.inr (Or.inr (Or.inr (Or.inr (Or.inr (Or.inl h)))))
  · exact Or.inr (Or.inr (Or.inr (Or.inr (Or.inr (Or.inr (Or.inr h))))))
  · exact Or.inr (Or.inr (Or.inr (Or.inr (Or.inr (Or.inr (Or.inl h))))))
theorem ownG.wk {G : Gh} {q : Nat} (h : ownA (gwk G) q) : ownG G q := Or.inr (Or.inr (Or.inr (Or.inr (Or.inl h))))
theorem ownG.P {G : Gh} {q : Nat} (h : ownP (gP G) q) : ownG G q := Or.inr (Or.inr (Or.inr (Or.inr (Or.inr (Or.inl h)))))
theorem ownG.S {G : Gh} {q i : Nat} (hi : i < 13) (h : ownA (gS G i) q) : ownG G q := Or.inr (Or.inr (Or.inr (Or.inr (Or.inr (Or.inr (Or.inl ⟨i, hi, h⟩))))))
def RL (h : AH) (rf : Nat → Option Nat) (Rl : List Ru) : Prop := ∀ (j : Nat) (R : Ru), Rl[j]? = some R → ∃ a, rf j = some a ∧ h a = some (rcell R) ∧ rok (3 + j) R
theorem rcell_obj (R : Ru) : ∃ ci fs, rcell R = .inr (ci, fs) ∧ ci ≠ 0 ∧ ci ≠ 1 ∧ ci ≠ 9 ∧ ci ≠ 10 := by
  unfold rcell
  split <;> exact ⟨_, _, rfl, by decide, by decide, by decide, by decide⟩
theorem RL.frm {h h' : AH} {rf : Nat → Option Nat} {Rl : List Ru} {X : Nat → Prop} (hR : RL h rf Rl) (hX : ∀ (a ci : Nat) (fs : List Value), h a = some (.inr (ci, fs)) → ci ≠ 0 → ci ≠ 1 → ci ≠ 9 → ci ≠ 10 → ¬ X a) (hf : Frm X h h') : RL h' rf Rl := fun j R hj => by
  obtain ⟨a, h1, h2, h3⟩ := hR j R hj
  obtain ⟨ci, fs, e, n0, n1, n9, n10⟩ := rcell_obj R
  exact ⟨a, h1, (hf a (hX a ci fs (by rw [h2, e]) n0 n1 n9 n10)).trans h2, h3⟩
def DB (o : Om) (h : AH) (G : Gh) (Ls Ns : Nat → List Rw) (wl : List Rw) (pl : List Pn) (rf : Nat → Option Nat) (cf : Nat → Int32) (Rl : List Ru) : Prop := SA o h (gnw G) (gS G) Ls ∧ SA o h (gnx G) (gT G) Ns ∧ RA o h (gwk G) wl ∧ PA o h (gP G) pl ∧ h (gru G) = some (.inl (o.2.1 3, 10, .inr (.inr (.inr (.inr rf))))) ∧ h (gch G) = some (.inl (o.2.1 0, 10, .inl cf)) ∧ RL h rf Rl
section DBS
variable {o : Om} {h h' : AH} {G : Gh} {Ls Ns : Nat → List Rw} {wl : List Rw} {pl : List Pn} {rf : Nat → Option Nat} {cf : Nat → Int32} {Rl : List Ru}
theorem DB.sw (hd : DB o h G Ls Ns wl pl rf cf Rl) : DB o h (sw G) Ns Ls wl pl rf cf Rl := ⟨hd.2.1, hd.1, hd.2.2⟩
theorem SA.slot {s : Nat} {S : Nat → Qd} (hS : SA o h s S Ls) {i : Nat} (hi : i < 13) : RA o h (S i) (Ls i) := by
  obtain ⟨fs, h1, h2⟩ := hS
  exact (h2 i hi).2
theorem DB.wk (hd : DB o h G Ls Ns wl pl rf cf Rl) (g : GD G) (hf : Frm (ownA (gwk G)) h h') {wl' : List Rw} (hr : RA o h' (gwk G) wl') : DB o h' G Ls Ns wl' pl rf cf Rl := by
  obtain ⟨d1, d2, d3, d4, d5, d6, d7⟩ := hd
  obtain ⟨a1, a2, a3, a4, a5, a6, a7, a8, ⟨a9, a10, a11, a12⟩, ⟨a13, a14, a15⟩, a16, a17, a18⟩ := g
  refine ⟨d1.frm ?_ (fun i hi => d3.nown (d1.slot hi) (a4 i hi)) hf, d2.frm ?_ (fun i hi => d3.nown (d2.slot hi) (a5 i hi)) hf, hr, d4.frm (d3.nownP d4 a6) hf, (hf _ (nown_q d3 d5)).trans d5, (hf _ (nown_i d3 d6 a9)).trans d6, d7.frm (fun a ci fs he n0 _ _ _ => nown_obj d3 he n0) hf⟩
  · obtain ⟨fs, e1, -⟩ := d1; exact nown_q d3 e1
  · obtain ⟨fs, e1, -⟩ := d2; exact nown_q d3 e1
theorem DB.slot (hd : DB o h G Ls Ns wl pl rf cf Rl) (g : GD G) {k : Nat} (hk : k < 13) (hf : Frm (ownA (gS G k)) h h') {N : List Rw} (hr : RA o h' (gS G k) N) : DB o h' G (updL Ls k N) Ns wl pl rf cf Rl := by
  obtain ⟨d1, d2, d3, d4, d5, d6, d7⟩ := hd
  obtain ⟨a1, a2, a3, a4, a5, a6, a7, a8, ⟨a9, a10, a11, a12⟩, ⟨a13, a14, a15⟩, a16, a17, a18⟩ := g
  have dk := d1.slot hk
  refine ⟨?_, d2.frm ?_ (fun i hi => dk.nown (d2.slot hi) (a3 k hk i hi)) hf, d3.frm (dk.nown d3 (a4 k hk).symm) hf, d4.frm (dk.nownP d4 (a7 k hk)) hf, (hf _ (nown_q dk d5)).trans d5, (hf _ (nown_i dk d6 (a10 k hk))).trans d6, d7.frm (fun a ci fs he n0 _ _ _ => nown_obj dk he n0) hf⟩
  · obtain ⟨fs, e1, e2⟩ := d1
    refine ⟨fs, (hf _ (nown_q dk e1)).trans e1, fun i hi => ⟨(e2 i hi).1, ?_⟩⟩
    unfold updL
    by_cases e : i = k
    · subst e; rw [if_pos rfl]; exact hr
    · rw [if_neg e]; exact (e2 i hi).2.frm (dk.nown (e2 i hi).2 (a1 k hk i hi (Ne.symm e))) hf
  · obtain ⟨fs, e1, -⟩ := d2; exact nown_q dk e1
theorem DB.pd (hd : DB o h G Ls Ns wl pl rf cf Rl) (g : GD G) (hf : Frm (ownP (gP G)) h h') {pl' : List Pn} (hr : PA o h' (gP G) pl') : DB o h' G Ls Ns wl pl' rf cf Rl := by
  obtain ⟨d1, d2, d3, d4, d5, d6, d7⟩ := hd
  obtain ⟨a1, a2, a3, a4, a5, a6, a7, a8, ⟨a9, a10, a11, a12⟩, ⟨a13, a14, a15⟩, a16, a17, a18⟩ := g
  refine ⟨d1.frm ?_ (fun i hi q hq z => (d1.slot hi).nownP d4 (a7 i hi) q z hq) hf, d2.frm ?_ (fun i hi q hq z => (d2.slot hi).nownP d4 (a8 i hi) q z hq) hf, d3.frm (fun q hq z => d3.nownP d4 a6 q z hq) hf, hr, (hf _ (nownP_q d4 d5)).trans d5, (hf _ a12).trans d6, d7.frm (fun a ci fs he _ n1 _ _ => nownP_obj d4 he n1) hf⟩
  · obtain ⟨fs, e1, -⟩ := d1; exact nownP_q d4 e1
  · obtain ⟨fs, e1, -⟩ := d2; exact nownP_q d4 e1
end DBS
theorem b01_n (b : Bool) : narrow .boolean (.int (b01 b)) = .int (b01 b) := by cases b <;> rfl
def inR (v n : Int32) : Bool := decide (¬ v < 0) && decide (¬ n ≤ v)
theorem inR_t {v : Int32} {n : Nat} (hn : n < 2147483648) (h : inR v (nI n) = true) : ∃ j, j < n ∧ v = nI j := by
  unfold inR at h
  simp only [Bool.and_eq_true, decide_eq_true_eq] at h
  rcases pk_ix v hn with e | e | e
  · exact absurd e h.1
  · exact absurd e h.2
  · exact e
def fitB (cap : Nat) (N : List Rw) : Bool := decide (N.length ≤ cap) && N.all (fun r => okW r.2)
/-- the object's own cell -/
def DX (h : AH) (x : Nat) (G : Gh) (nn : Int32) : Prop := h x = some (.inr (9, [.ref (gnw G), .ref (gnx G), .ref (gwk G).1, .ref (gP G).1, .ref (gru G), .ref (gch G), .int nn]))
set_option maxHeartbeats 4000000 in
set_option maxRecDepth 100000 in
/-- isBelow -/
theorem c_DV_isBelow (l : Launch) (o : Om) (h : AH) (v n : Int32)  : Mt l o yDV_isBelow cDV_isBelow 2 (some .boolean) ({ frames := 0, cells := 0, slots := 0, locals := 0 } : Room) [.int v, .int n] h (QI o (fun x h' => x = b01 (inR v n) ∧ h' = h)) (0) (0) := by
  refine Met.ofV (by decide) (Nat.le_of_ble_eq_true rfl) (fun K hl ho C => ?_)
  subst hl; subst ho
  refine r_iload_n (n := 1) C dDV_isBelow_0 rfl rfl ?_
  refine r_if_lt (tgt := 13) (n := 4) C dDV_isBelow_1 (by decide) rfl (fun c_1 => ?_) (fun c_1 => ?_)
  · have hz : inR v n = false := by unfold inR; rw [decide_eq_false (p := ¬ v < 0) (fun q => q c_1)]; rfl
    refine r_iconst (v := 0) (n := 14) C dDV_isBelow_13 rfl (by decide) ?_
    exact r_zret C dDV_isBelow_14 rfl (Nat.le_refl _) (Nat.le_refl _) ⟨by rw [hz]; rfl, rfl⟩
  · refine r_iload_n (n := 5) C dDV_isBelow_4 rfl rfl ?_
    refine r_iload_n (n := 6) C dDV_isBelow_5 rfl rfl ?_
    refine r_icmp_ge (tgt := 13) (n := 9) C dDV_isBelow_6 (by decide) rfl (fun c_6 => ?_) (fun c_6 => ?_)
    · have hz : inR v n = false := by unfold inR; rw [decide_eq_false (p := ¬ n ≤ v) (fun q => q c_6), Bool.and_false]
      refine r_iconst (v := 0) (n := 14) C dDV_isBelow_13 rfl (by decide) ?_
      exact r_zret C dDV_isBelow_14 rfl (Nat.le_refl _) (Nat.le_refl _) ⟨by rw [hz]; rfl, rfl⟩
    · have hz : inR v n = true := by unfold inR; rw [decide_eq_true c_6, decide_eq_true c_1]; rfl
      refine r_iconst (v := 1) (n := 10) C dDV_isBelow_9 rfl (by decide) ?_
      refine r_goto (tgt := 14) C dDV_isBelow_10 (by decide) ?_
      exact r_zret C dDV_isBelow_14 rfl (Nat.le_refl _) (Nat.le_refl _) ⟨by rw [hz]; rfl, rfl⟩
set_option maxHeartbeats 4000000 in
set_option maxRecDepth 100000 in
/-- isColumn -/
theorem c_DV_isColumn (l : Launch) (o : Om) (h : AH) (v : Int32)  : Mt l o yDV_isColumn cDV_isColumn 1 (some .boolean) ({ frames := 1, cells := 0, slots := 0, locals := 21 } : Room) [.int v] h (QI o (fun x h' => x = b01 (inR v 3) ∧ h' = h)) (0) (0) := by
  refine Met.ofV (by decide) (Nat.le_of_ble_eq_true rfl) (fun K hl ho C => ?_)
  subst hl; subst ho
  refine r_iload_n (n := 1) C dDV_isColumn_0 rfl rfl ?_
  refine r_iconst (v := 3) (n := 2) C dDV_isColumn_1 rfl (by decide) ?_
  refine r_ci (n := 5) (rn_S (z := 2) C (c_DV_isBelow (Kl K) (Ko K) h v 3) tw_95 tw_96 tw_1 tw_97 rfl rfl ndDV_isBelow.2 ⟨Nat.le_of_ble_eq_true rfl, Nat.le_of_ble_eq_true rfl⟩ rfl rfl (Nat.le_of_ble_eq_true rfl) dDV_isColumn_2 ⟨Nat.le_of_ble_eq_true rfl, Nat.le_of_ble_eq_true rfl⟩) rfl (fun x ah hq => ?_)
  obtain ⟨e1, e2⟩ := hq
  subst e1
  rw [e2]
  exact r_zret C dDV_isColumn_5 (b01_n _) (Nat.le_refl _) (Nat.le_refl _) ⟨rfl, rfl⟩
set_option maxHeartbeats 4000000 in
set_option maxRecDepth 100000 in
/-- isTable -/
theorem c_DV_isTable (l : Launch) (o : Om) (h : AH) (v : Int32)  : Mt l o yDV_isTable cDV_isTable 1 (some .boolean) ({ frames := 1, cells := 0, slots := 0, locals := 21 } : Room) [.int v] h (QI o (fun x h' => x = b01 (inR v 3) ∧ h' = h)) (0) (0) := by
  refine Met.ofV (by decide) (Nat.le_of_ble_eq_true rfl) (fun K hl ho C => ?_)
  subst hl; subst ho
  refine r_iload_n (n := 1) C dDV_isTable_0 rfl rfl ?_
  refine r_iconst (v := 3) (n := 2) C dDV_isTable_1 rfl (by decide) ?_
  refine r_ci (n := 5) (rn_S (z := 2) C (c_DV_isBelow (Kl K) (Ko K) h v 3) tw_95 tw_96 tw_1 tw_97 rfl rfl ndDV_isBelow.2 ⟨Nat.le_of_ble_eq_true rfl, Nat.le_of_ble_eq_true rfl⟩ rfl rfl (Nat.le_of_ble_eq_true rfl) dDV_isTable_2 ⟨Nat.le_of_ble_eq_true rfl, Nat.le_of_ble_eq_true rfl⟩) rfl (fun x ah hq => ?_)
  obtain ⟨e1, e2⟩ := hq
  subst e1
  rw [e2]
  exact r_zret C dDV_isTable_5 (b01_n _) (Nat.le_refl _) (Nat.le_refl _) ⟨rfl, rfl⟩
set_option maxHeartbeats 4000000 in
set_option maxRecDepth 100000 in
/-- isNode -/
theorem c_DV_isNode (l : Launch) (o : Om) (h : AH) (x : Nat) (fs : List Value) (v nn : Int32) (hx : h x = some (.inr (9, fs))) (hf : fs[6]? = some (.int nn)) : Mt l o yDV_isNode cDV_isNode 2 (some .boolean) ({ frames := 1, cells := 0, slots := 0, locals := 21 } : Room) [.ref x, .int v] h (QI o (fun r h' => r = b01 (inR v nn) ∧ h' = h)) (0) (0) := by
  refine Met.ofV (by decide) (Nat.le_of_ble_eq_true rfl) (fun K hl ho C => ?_)
  subst hl; subst ho
  refine r_iload_n (n := 1) C dDV_isNode_0 rfl rfl ?_
  refine r_aload_n (n := 2) C dDV_isNode_1 rfl rfl ?_
  refine r_get (ci := 9) (n := 5) C hinDV rfl 6 (by decide) tw_72 rfl dDV_isNode_2 rfl (by assumption) hf ?_
  refine r_ci (n := 8) (rn_S (z := 2) C (c_DV_isBelow (Kl K) (Ko K) h v nn) tw_95 tw_96 tw_1 tw_97 rfl rfl ndDV_isBelow.2 ⟨Nat.le_of_ble_eq_true rfl, Nat.le_of_ble_eq_true rfl⟩ rfl rfl (Nat.le_of_ble_eq_true rfl) dDV_isNode_5 ⟨Nat.le_of_ble_eq_true rfl, Nat.le_of_ble_eq_true rfl⟩) rfl (fun y ah hq => ?_)
  obtain ⟨e1, e2⟩ := hq
  subst e1
  rw [e2]
  exact r_zret C dDV_isNode_8 (b01_n _) (Nat.le_refl _) (Nat.le_refl _) ⟨rfl, rfl⟩
set_option maxHeartbeats 4000000 in
set_option maxRecDepth 100000 in
/-- slotOf -/
theorem c_DV_slotOf (l : Launch) (o : Om) (h : AH) (j : Nat)  : Mt l o yDV_slotOf cDV_slotOf 1 (some .int) ({ frames := 0, cells := 0, slots := 0, locals := 0 } : Room) [.int (nI j)] h (QI o (fun r h' => r = nI (3 + j) ∧ h' = h)) (0) (0) := by
  refine Met.ofV (by decide) (Nat.le_of_ble_eq_true rfl) (fun K hl ho C => ?_)
  subst hl; subst ho
  refine r_iconst (v := 3) (n := 1) C dDV_slotOf_0 rfl (by decide) ?_
  refine r_iload_n (n := 2) C dDV_slotOf_1 rfl rfl ?_
  refine r_iadd (n := 3) C dDV_slotOf_2 rfl ?_
  exact r_iret C dDV_slotOf_3 (Nat.le_refl _) (Nat.le_refl _) ⟨nI_add 3 j, rfl⟩
end
section
/-! DELTAVIEWS: settleWork, fillNode, gatherTable, and what stands on them -/
set_option maxHeartbeats 4000000 in
set_option maxRecDepth 100000 in
/-- rowsOf -/
theorem c_DV_rowsOf (l : Launch) (o : Om) (h : AH) (x j : Nat) (nn : Int32) (G : Gh) (Ls Ns : Nat → List Rw) (wl : List Rw) (pl : List Pn) (rf : Nat → Option Nat) (cf : Nat → Int32) (Rl : List Ru) (hd : DB o h G Ls Ns wl pl rf cf Rl) (g : GD G) (hx : DX h x G nn) (hj : j < 10) : Mt l o yDV_rowsOf cDV_rowsOf 2 (some (.object "DeltaViews$Rows")) ({ frames := 1, cells := 0, slots := 0, locals := 20 } : Room) [.ref x, .int (nI j)] h (QR o (fun u => u = (h, (gS G (3 + j)).1))) (0) (0) := by
  refine Met.ofV (by decide) (Nat.le_of_ble_eq_true rfl) (fun K hl ho C => ?_)
  subst hl; subst ho
  obtain ⟨fs0, hs0, hsl⟩ := hd.1
  unfold DX at hx
  refine r_aload_n (n := 1) C dDV_rowsOf_0 rfl rfl ?_
  refine r_get (ci := 9) (n := 4) C hinDV rfl 0 (by decide) tw_66 rfl dDV_rowsOf_1 rfl (by assumption) rfl ?_
  refine r_iload_n (n := 5) C dDV_rowsOf_4 rfl rfl ?_
  refine r_ci (n := 8) (rn_S (z := 1) C (c_DV_slotOf (Kl K) (Ko K) h j) tw_272 tw_273 tw_1 tw_274 rfl rfl ndDV_slotOf.2 ⟨Nat.le_of_ble_eq_true rfl, Nat.le_of_ble_eq_true rfl⟩ rfl rfl (Nat.le_of_ble_eq_true rfl) dDV_rowsOf_5 ⟨Nat.le_of_ble_eq_true rfl, Nat.le_of_ble_eq_true rfl⟩) rfl (fun y ah hq => ?_)
  obtain ⟨e1, e2⟩ := hq
  subst e1
  rw [e2]
  refine r_aald (n := 9) (t0 := 2) C dDV_rowsOf_8 rfl hs0 rfl (3 + j) rfl (by omega) (by omega) (hsl (3 + j) (by omega)).1 ?_
  exact r_aret C (Or.inl ⟨_, rfl⟩) dDV_rowsOf_9 (Nat.le_refl _) (Nat.le_refl _) rfl
section DBX
variable {o : Om} {h h' : AH} {G : Gh} {Ls Ns : Nat → List Rw} {wl : List Rw} {pl : List Pn} {rf : Nat → Option Nat} {cf : Nat → Int32} {Rl : List Ru} {x : Nat} {fs : List Value}
theorem DB.x_wk (hd : DB o h G Ls Ns wl pl rf cf Rl) (hx : h x = some (.inr (9, fs))) (hf : Frm (ownA (gwk G)) h h') : h' x = some (.inr (9, fs)) := (hf x (nown_obj hd.2.2.1 hx (by decide))).trans hx
theorem DB.x_S (hd : DB o h G Ls Ns wl pl rf cf Rl) {k : Nat} (hk : k < 13) (hx : h x = some (.inr (9, fs))) (hf : Frm (ownA (gS G k)) h h') : h' x = some (.inr (9, fs)) := (hf x (nown_obj (hd.1.slot hk) hx (by decide))).trans hx
end DBX
set_option maxHeartbeats 4000000 in
set_option maxRecDepth 100000 in
/-- settleWork -/
theorem c_DV_settleWork (l : Launch) (o : Om) (h : AH) (x k : Nat) (fs : List Value) (G : Gh) (Ls Ns : Nat → List Rw) (wl : List Rw) (pl : List Pn) (rf : Nat → Option Nat) (cf : Nat → Int32) (Rl : List Ru) (hd : DB o h G Ls Ns wl pl rf cf Rl) (g : GD G) (hx : h x = some (.inr (9, fs))) (hf2 : fs[2]? = some (.ref (gwk G).1)) (hk13 : k < 13) : Mt l o yDV_settleWork cDV_settleWork 2 (some .boolean) ({ frames := 2, cells := 0, slots := 0, locals := 70 } : Room) [.ref x, .ref (gS G k).1] h (QI o (fun r h' => r = b01 (fitB (capOf k) (nz wl)) ∧ DB o h' G (if fitB (capOf k) (nz wl) = true then updL Ls k (nz wl) else Ls) Ns (nz wl) pl rf cf Rl ∧ h' x = h x ∧ Frm (ownG G) h h')) (0) (0) := by
  refine Met.ofV (by decide) (Nat.le_of_ble_eq_true rfl) (fun K hl ho C => ?_)
  subst hl; subst ho
  obtain ⟨fw, gw, hRw⟩ := hd.2.2.1
  have hcap : (gS G k).2.2.2 = capOf k := g.2.2.2.2.2.2.2.2.2.2.2.1 k hk13
  refine r_aload_n (n := 1) C dDV_settleWork_0 rfl rfl ?_
  refine r_get (ci := 9) (n := 4) C hinDV rfl 2 (by decide) tw_68 rfl dDV_settleWork_1 rfl hx hf2 ?_
  refine r_cv (n := 7) (rn_V (z := 0) (ci := 0) (T := TRW) C (c_RW_dropZeros (Kl K) (Ko K) h (gwk G) fw gw wl hRw) tw_279 tw_280 tw_281 tw_2 tw_282 rfl rfl ndRW_dropZeros ⟨Nat.le_of_ble_eq_true rfl, Nat.le_of_ble_eq_true rfl⟩ hRw.1 rfl rfl rfl (Nat.le_of_ble_eq_true rfl) dDV_settleWork_4 ⟨Nat.le_of_ble_eq_true rfl, Nat.le_of_ble_eq_true rfl⟩) rfl (fun h1 hq => ?_)
  obtain ⟨f1, g1, hR1, hO1⟩ := hq
  have hx1 := hd.x_wk hx hO1.frm
  have hd1 := hd.wk g hO1.frm ⟨f1, g1, hR1⟩
  obtain ⟨fk, gk, hRk⟩ := hd1.1.slot hk13
  refine r_aload_n (n := 8) C dDV_settleWork_7 rfl rfl ?_
  refine r_aload_n (n := 9) C dDV_settleWork_8 rfl rfl ?_
  refine r_get (ci := 9) (n := 12) C hinDV rfl 2 (by decide) tw_68 rfl dDV_settleWork_9 rfl hx1 hf2 ?_
  refine r_ci (n := 15) (rn_V (z := 1) (ci := 0) (T := TRW) C (c_RW_canHold (Kl K) (Ko K) h1 (gS G k) fk gk (Ls k) (gwk G) f1 g1 (nz wl) hRk hR1) tw_283 tw_284 tw_285 tw_2 tw_286 rfl rfl ndRW_canHold ⟨Nat.le_of_ble_eq_true rfl, Nat.le_of_ble_eq_true rfl⟩ hRk.1 rfl rfl rfl (Nat.le_of_ble_eq_true rfl) dDV_settleWork_12 ⟨Nat.le_of_ble_eq_true rfl, Nat.le_of_ble_eq_true rfl⟩) rfl (fun y ah hq => ?_)
  obtain ⟨e1, e2⟩ := hq
  subst e1
  rw [e2]
  rw [hcap]
  refine r_if_ne (tgt := 20) (n := 18) C dDV_settleWork_15 (by decide) rfl (fun c_15 => ?_) (fun c_15 => ?_)
  · have hz : fitB (capOf k) (nz wl) = true := b01_t c_15
    refine r_aload_n (n := 21) C dDV_settleWork_20 rfl rfl ?_
    refine r_aload_n (n := 22) C dDV_settleWork_21 rfl rfl ?_
    refine r_get (ci := 9) (n := 25) C hinDV rfl 2 (by decide) tw_68 rfl dDV_settleWork_22 rfl hx1 hf2 ?_
    refine r_cv (n := 28) (rn_V (z := 1) (ci := 0) (T := TRW) C (c_RW_copyFrom (Kl K) (Ko K) h1 (gS G k) fk gk (Ls k) (gwk G) f1 g1 (nz wl) hRk hR1 (g.2.2.2.1 k hk13).symm (by rw [hcap]; have := hz; unfold fitB at this; simp only [Bool.and_eq_true, decide_eq_true_eq] at this; exact this.1)) tw_289 tw_134 tw_135 tw_2 tw_136 rfl rfl ndRW_copyFrom ⟨Nat.le_of_ble_eq_true rfl, Nat.le_of_ble_eq_true rfl⟩ hRk.1 rfl rfl rfl (Nat.le_of_ble_eq_true rfl) dDV_settleWork_25 ⟨Nat.le_of_ble_eq_true rfl, Nat.le_of_ble_eq_true rfl⟩) rfl (fun h2 hq => ?_)
    obtain ⟨f2, g2, hR2, hO2⟩ := hq
    refine r_iconst (v := 1) (n := 29) C dDV_settleWork_28 rfl (by decide) ?_
    exact r_zret C dDV_settleWork_29 rfl (Nat.le_refl _) (Nat.le_refl _) ⟨by rw [hz]; rfl, by rw [hz]; exact hd1.slot g hk13 hO2.frm ⟨f2, g2, hR2⟩, (hd1.x_S hk13 hx1 hO2.frm).trans hx.symm, (hO1.frm.mono (fun _ => ownG.wk)).tr (hO2.frm.mono (fun _ => ownG.S hk13))⟩
  · have hz : fitB (capOf k) (nz wl) = false := b01_f c_15
    refine r_iconst (v := 0) (n := 19) C dDV_settleWork_18 rfl (by decide) ?_
    exact r_zret C dDV_settleWork_19 rfl (Nat.le_refl _) (Nat.le_refl _) ⟨by rw [hz]; rfl, by rw [hz]; exact hd1, hx1.trans hx.symm, hO1.frm.mono (fun _ => ownG.wk)⟩
set_option maxHeartbeats 4000000 in
set_option maxRecDepth 100000 in
/-- fillNode -/
theorem c_DV_fillNode (l : Launch) (o : Om) (h : AH) (x rr j : Nat) (fs : List Value) (R : Ru) (G : Gh) (Ls Ns : Nat → List Rw) (wl : List Rw) (pl : List Pn) (rf : Nat → Option Nat) (cf : Nat → Int32) (Rl : List Ru) (hd : DB o h G Ls Ns wl pl rf cf Rl) (g : GD G) (hx : h x = some (.inr (9, fs))) (hf2 : fs[2]? = some (.ref (gwk G).1)) (hj : j < 10) (hrr : h rr = some (rcell R)) (hok : rok (3 + j) R) (hsrt : ∀ i, i < 13 → Srt (Ls i)) : Mt l o yDV_fillNode cDV_fillNode 4 (some .boolean) ({ frames := 5, cells := 0, slots := 0, locals := 151 } : Room) [.ref x, .ref rr, .ref (gnw G), .int (nI j)] h (QI o (fun r h' => r = b01 (fitB 24 (nz (rfill R Ls))) ∧ DB o h' G (if fitB 24 (nz (rfill R Ls)) = true then updL Ls (3 + j) (nz (rfill R Ls)) else Ls) Ns (nz (rfill R Ls)) pl rf cf Rl ∧ h' x = h x ∧ Frm (ownG G) h h')) (0) (0) := by
  refine Met.ofV (by decide) (Nat.le_of_ble_eq_true rfl) (fun K hl ho C => ?_)
  subst hl; subst ho
  obtain ⟨fw, gw, hRw⟩ := hd.2.2.1
  have rest : ∀ (h2 : AH), DB (Ko K) h2 G Ls Ns (rfill R Ls) pl rf cf Rl → h2 x = some (.inr (9, fs)) → Frm (ownG G) h h2 → V K h2 0 0 (EndQ K (QI (Ko K) (fun r h' => r = b01 (fitB 24 (nz (rfill R Ls))) ∧ DB (Ko K) h' G (if fitB 24 (nz (rfill R Ls)) = true then updL Ls (3 + j) (nz (rfill R Ls)) else Ls) Ns (nz (rfill R Ls)) pl rf cf Rl ∧ h' x = h x ∧ Frm (ownG G) h h')) 0 0) 18 [(0, .ref x), (1, .ref rr), (2, .ref (gnw G)), (3, .int (nI j))] [] := by
    intro h2 hd2 hx2 hf2'
    obtain ⟨fs0, hs0, hsl⟩ := hd2.1
    refine r_aload_n (n := 19) C dDV_fillNode_18 rfl rfl ?_
    refine r_aload_n (n := 20) C dDV_fillNode_19 rfl rfl ?_
    refine r_iload_n (n := 21) C dDV_fillNode_20 rfl rfl ?_
    refine r_ci (n := 24) (rn_S (z := 1) C (c_DV_slotOf (Kl K) (Ko K) h2 j) tw_272 tw_273 tw_1 tw_274 rfl rfl ndDV_slotOf.2 ⟨Nat.le_of_ble_eq_true rfl, Nat.le_of_ble_eq_true rfl⟩ rfl rfl (Nat.le_of_ble_eq_true rfl) dDV_fillNode_21 ⟨Nat.le_of_ble_eq_true rfl, Nat.le_of_ble_eq_true rfl⟩) rfl (fun y ah hq => ?_)
    obtain ⟨e1, e2⟩ := hq
    subst e1
    rw [e2]
    refine r_aald (n := 25) (t0 := 2) C dDV_fillNode_24 rfl hs0 rfl (3 + j) rfl (by omega) (by omega) (hsl (3 + j) (by omega)).1 ?_
    refine r_ci (n := 28) (rn_V (z := 1) (ci := 9) (T := TDV) C (c_DV_settleWork (Kl K) (Ko K) h2 x (3 + j) fs G Ls Ns (rfill R Ls) pl rf cf Rl hd2 g hx2 hf2 (by omega)) tw_275 tw_277 ts_12 tw_1 tw_278 rfl rfl ndDV_settleWork ⟨Nat.le_of_ble_eq_true rfl, Nat.le_of_ble_eq_true rfl⟩ hx2 rfl rfl rfl (Nat.le_of_ble_eq_true rfl) dDV_fillNode_25 ⟨Nat.le_of_ble_eq_true rfl, Nat.le_of_ble_eq_true rfl⟩) rfl (fun y h3 hq => ?_)
    have hc24 : capOf (3 + j) = 24 := if_neg (by omega)
    rw [hc24] at hq
    obtain ⟨e1, e2, e3, e4⟩ := hq
    exact r_zret C dDV_fillNode_28 (by rw [e1]; exact b01_n _) (Nat.le_refl _) (Nat.le_refl _) ⟨e1, e2, e3.trans (hx2.trans hx.symm), hf2'.tr e4⟩
  refine r_aload_n (n := 1) C dDV_fillNode_0 rfl rfl ?_
  refine r_get (ci := 9) (n := 4) C hinDV rfl 2 (by decide) tw_68 rfl dDV_fillNode_1 rfl hx hf2 ?_
  refine r_cv (n := 7) (rn_V (z := 0) (ci := 0) (T := TRW) C (c_RW_clear (Kl K) (Ko K) h (gwk G) fw gw wl hRw) tw_119 tw_120 tw_121 tw_2 tw_122 rfl rfl ndRW_clear ⟨Nat.le_of_ble_eq_true rfl, Nat.le_of_ble_eq_true rfl⟩ hRw.1 rfl rfl rfl (Nat.le_of_ble_eq_true rfl) dDV_fillNode_4 ⟨Nat.le_of_ble_eq_true rfl, Nat.le_of_ble_eq_true rfl⟩) rfl (fun h1 hq => ?_)
  obtain ⟨f1, g1, hR1, hO1⟩ := hq
  have hx1 := hd.x_wk hx hO1.frm
  have hd1 := hd.wk g hO1.frm ⟨f1, g1, hR1⟩
  refine r_aload_n (n := 8) C dDV_fillNode_7 rfl rfl ?_
  refine r_aload_n (n := 9) C dDV_fillNode_8 rfl rfl ?_
  refine r_aload_n (n := 10) C dDV_fillNode_9 rfl rfl ?_
  refine r_get (ci := 9) (n := 13) C hinDV rfl 2 (by decide) tw_68 rfl dDV_fillNode_10 rfl hx1 hf2 ?_
  have hFP : FP (Ko K) h1 (gnw G) (gS G) Ls (gwk G) := ⟨hd1.1, fun i hi => ⟨g.2.2.2.1 i hi, hsrt i hi, by obtain ⟨_, _, _, _, _, hl, _⟩ := hd1.1.slot hi; have hc := g.2.2.2.2.2.2.2.2.2.2.2.1 i hi; rw [hc] at hl; unfold capOf at hl; split at hl <;> omega⟩⟩
  have hcw : (gwk G).2.2.2 = 576 := g.2.2.2.2.2.2.2.2.2.2.1
  have fin : ∀ (h2 : AH), (∃ f' g', RA0 (Ko K) h2 (gwk G) f' g' (rfill R Ls) ∧ Off (gwk G) h1 h2) → V K h2 0 0 _ 18 _ [] := fun h2 ⟨f2, g2, hR2, hO2⟩ => rest h2 (hd1.wk g hO2.frm ⟨f2, g2, hR2⟩) (hd1.x_wk hx1 hO2.frm) ((hO1.frm.mono (fun _ => ownG.wk)).tr (hO2.frm.mono (fun _ => ownG.wk)))
  have hrr1 : h1 rr = some (rcell R) := by obtain ⟨ci, fs1, e, n0, _, _, _⟩ := rcell_obj R; rw [e] at hrr; exact ((hO1.frm rr (nown_obj hd.2.2.1 hrr n0)).trans hrr).trans (by rw [e])
  obtain ⟨kd, a, b, c, d, e, n⟩ := R
  rcases kd with _ | _ | _ | _ | _ | _ | _ | kd
  · have hok : a < 3 := hok
    refine r_cFv (n := 18) (rn_F (z := 2) (ci := 2) (T := TTR) (Cn := "DeltaViews$TableRule") C (c_TR_fill (Kl K) (Ko K) h1 (gnw G) rr (gS G) Ls (gwk G) f1 g1 a hFP hR1 hcw (by omega) hrr1) tw_124 tw_266 tw_268 tw_6 tw_270 rfl rfl (by decide +kernel) (by decide +kernel) ⟨Nat.le_of_ble_eq_true rfl, Nat.le_of_ble_eq_true rfl⟩ hrr1 rfl rfl rfl (Nat.le_of_ble_eq_true rfl) dDV_fillNode_13 ⟨Nat.le_of_ble_eq_true rfl, Nat.le_of_ble_eq_true rfl⟩) rfl (fun h2 hq => ?_)
    exact fin h2 hq
  · obtain ⟨k1, k2, k3, k4⟩ : 3 ≤ a ∧ a < 3 + j ∧ b < 3 ∧ c < 4 := hok
    refine r_cFv (n := 18) (rn_F (z := 2) (ci := 3) (T := TFR) (Cn := "DeltaViews$FilterRule") C (c_FR_fill (Kl K) (Ko K) h1 (gnw G) rr (gS G) Ls (gwk G) f1 g1 a b c n hFP hR1 hcw (by omega) k3 k4 hrr1) tw_124 tw_190 tw_192 tw_11 tw_194 rfl rfl (by decide +kernel) (by decide +kernel) ⟨Nat.le_of_ble_eq_true rfl, Nat.le_of_ble_eq_true rfl⟩ hrr1 rfl rfl rfl (Nat.le_of_ble_eq_true rfl) dDV_fillNode_13 ⟨Nat.le_of_ble_eq_true rfl, Nat.le_of_ble_eq_true rfl⟩) rfl (fun h2 hq => ?_)
    exact fin h2 hq
  · obtain ⟨k1, k2, k3, k4, k5⟩ : 3 ≤ a ∧ a < 3 + j ∧ b < 6 ∧ c < 6 ∧ d < 6 := hok
    refine r_cFv (n := 18) (rn_F (z := 2) (ci := 4) (T := TMR) (Cn := "DeltaViews$MapRule") C (c_MR_fill (Kl K) (Ko K) h1 (gnw G) rr (gS G) Ls (gwk G) f1 g1 a b c d hFP hR1 hcw (by omega) k3 k4 k5 hrr1) tw_124 tw_253 tw_255 tw_10 tw_257 rfl rfl (by decide +kernel) (by decide +kernel) ⟨Nat.le_of_ble_eq_true rfl, Nat.le_of_ble_eq_true rfl⟩ hrr1 rfl rfl rfl (Nat.le_of_ble_eq_true rfl) dDV_fillNode_13 ⟨Nat.le_of_ble_eq_true rfl, Nat.le_of_ble_eq_true rfl⟩) rfl (fun h2 hq => ?_)
    exact fin h2 hq
  · obtain ⟨k1, k2, k3, k4, k5, k6, k7⟩ : 3 ≤ a ∧ a < 3 + j ∧ 3 ≤ b ∧ b < 3 + j ∧ c < 3 ∧ d < 3 ∧ e < 216 := hok
    refine r_cFv (n := 18) (rn_F (z := 2) (ci := 5) (T := TJR) (Cn := "DeltaViews$JoinRule") C (c_JR_fill (Kl K) (Ko K) h1 (gnw G) rr (gS G) Ls (gwk G) f1 g1 a b c d e hFP hR1 hcw (by omega) (by omega) k5 k6 k7 hrr1) tw_124 tw_240 tw_242 tw_9 tw_244 rfl rfl (by decide +kernel) (by decide +kernel) ⟨Nat.le_of_ble_eq_true rfl, Nat.le_of_ble_eq_true rfl⟩ hrr1 rfl rfl rfl (Nat.le_of_ble_eq_true rfl) dDV_fillNode_13 ⟨Nat.le_of_ble_eq_true rfl, Nat.le_of_ble_eq_true rfl⟩) rfl (fun h2 hq => ?_)
    exact fin h2 hq
  · obtain ⟨k1, k2, k3, k4, k5⟩ : 3 ≤ a ∧ a < 3 + j ∧ 3 ≤ b ∧ b < 3 + j ∧ c < 2 := hok
    refine r_cFv (n := 18) (rn_F (z := 2) (ci := 6) (T := TCR) (Cn := "DeltaViews$CombineRule") C (c_CR_fill (Kl K) (Ko K) h1 (gnw G) rr (gS G) Ls (gwk G) f1 g1 a b c hFP hR1 hcw (by omega) (by omega) k5 hrr1) tw_124 tw_128 tw_130 tw_12 tw_132 rfl rfl (by decide +kernel) (by decide +kernel) ⟨Nat.le_of_ble_eq_true rfl, Nat.le_of_ble_eq_true rfl⟩ hrr1 rfl rfl rfl (Nat.le_of_ble_eq_true rfl) dDV_fillNode_13 ⟨Nat.le_of_ble_eq_true rfl, Nat.le_of_ble_eq_true rfl⟩) rfl (fun h2 hq => ?_)
    exact fin h2 hq
  · obtain ⟨k1, k2⟩ : 3 ≤ a ∧ a < 3 + j := hok
    refine r_cFv (n := 18) (rn_F (z := 2) (ci := 7) (T := TDR) (Cn := "DeltaViews$DistinctRule") C (c_DR_fill (Kl K) (Ko K) h1 (gnw G) rr (gS G) Ls (gwk G) f1 g1 a hFP hR1 hcw (by omega) hrr1) tw_124 tw_181 tw_183 tw_13 tw_185 rfl rfl (by decide +kernel) (by decide +kernel) ⟨Nat.le_of_ble_eq_true rfl, Nat.le_of_ble_eq_true rfl⟩ hrr1 rfl rfl rfl (Nat.le_of_ble_eq_true rfl) dDV_fillNode_13 ⟨Nat.le_of_ble_eq_true rfl, Nat.le_of_ble_eq_true rfl⟩) rfl (fun h2 hq => ?_)
    exact fin h2 hq
  · obtain ⟨k1, k2, k3, k4, k5⟩ : 3 ≤ a ∧ a < 3 + j ∧ b < 3 ∧ c < 3 ∧ d < 4 := hok
    refine r_cFv (n := 18) (rn_F (z := 2) (ci := 8) (T := TGR) (Cn := "DeltaViews$GroupRule") C (c_GR_fill (Kl K) (Ko K) h1 (gnw G) rr (gS G) Ls (gwk G) f1 g1 a b c d hFP hR1 hcw (by omega) k3 k4 k5 hrr1) tw_124 tw_205 tw_207 tw_14 tw_209 rfl rfl (by decide +kernel) (by decide +kernel) ⟨Nat.le_of_ble_eq_true rfl, Nat.le_of_ble_eq_true rfl⟩ hrr1 rfl rfl rfl (Nat.le_of_ble_eq_true rfl) dDV_fillNode_13 ⟨Nat.le_of_ble_eq_true rfl, Nat.le_of_ble_eq_true rfl⟩) rfl (fun h2 hq => ?_)
    exact fin h2 hq
  · exact absurd hok id
end
section
/-! DELTAVIEWS: gatherTable, the tests before a step, the changes noted, make -/
def kindG (e : va_E) : Prop := match e with
  | .inr q => q.1 = 0 ∨ q.1 = 1
  | .inl _ => True
section DBK
variable {o : Om} {h h' : AH} {G : Gh} {Ls Ns : Nat → List Rw} {wl : List Rw} {pl : List Pn} {rf : Nat → Option Nat} {cf : Nat → Int32} {Rl : List Ru} {X : Nat → Prop}
theorem RA.kind {A : Qd} {L : List Rw} (hA : RA o h A L) {q : Nat} (hq : ownA A q) : ∃ e, h q = some e ∧ kindG e := by
  obtain ⟨f, g, a1, a2, a3, -⟩ := hA
  rcases hq with e | e | e <;> subst e
  · exact ⟨_, a1, Or.inl rfl⟩
  · exact ⟨_, a2, trivial⟩
  · exact ⟨_, a3, trivial⟩
theorem DB.kind (hd : DB o h G Ls Ns wl pl rf cf Rl) {q : Nat} (hq : ownG G q) : ∃ e, h q = some e ∧ kindG e := by
  obtain ⟨d1, d2, d3, d4, d5, d6, d7⟩ := hd
  rcases hq with e | e | e | e | e | e | ⟨i, hi, e⟩ | ⟨i, hi, e⟩
  · obtain ⟨fs, e1, -⟩ := d1; subst e; exact ⟨_, e1, trivial⟩
  · obtain ⟨fs, e1, -⟩ := d2; subst e; exact ⟨_, e1, trivial⟩
  · subst e; exact ⟨_, d5, trivial⟩
  · subst e; exact ⟨_, d6, trivial⟩
  · exact d3.kind e
  · obtain ⟨_, _, _, b1, b2, b3, b4, -⟩ := d4
    rcases e with e | e | e | e <;> subst e
    · exact ⟨_, b1, Or.inr rfl⟩
    · exact ⟨_, b2, trivial⟩
    · exact ⟨_, b3, trivial⟩
    · exact ⟨_, b4, trivial⟩
  · exact (d1.slot hi).kind e
  · exact (d2.slot hi).kind e
theorem DB.frm (hd : DB o h G Ls Ns wl pl rf cf Rl) (hX : ∀ q, ownG G q → ¬ X q) (hr : ∀ (a ci : Nat) (fs : List Value), h a = some (.inr (ci, fs)) → ci ≠ 0 → ci ≠ 1 → ci ≠ 9 → ci ≠ 10 → ¬ X a) (hf : Frm X h h') : DB o h' G Ls Ns wl pl rf cf Rl := by
  obtain ⟨d1, d2, d3, d4, d5, d6, d7⟩ := hd
  exact ⟨d1.frm (hX _ (Or.inl rfl)) (fun i hi q hq => hX q (ownG.S hi hq)) hf, d2.frm (hX _ (Or.inr (Or.inl rfl))) (fun i hi q hq => hX q (Or.inr (Or.inr (Or.inr (Or.inr (Or.inr (Or.inr (Or.inr ⟨i, hi, hq⟩)))))))) hf, d3.frm (fun q hq => hX q (ownG.wk hq)) hf, d4.frm (fun q hq => hX q (ownG.P hq)) hf, (hf _ (hX _ (Or.inr (Or.inr (Or.inl rfl))))).trans d5, (hf _ (hX _ (Or.inr (Or.inr (Or.inr (Or.inl rfl)))))).trans d6, d7.frm hr hf⟩
/-- a change of the object's own cell -/
theorem DB.own9 (hd : DB o h G Ls Ns wl pl rf cf Rl) {x : Nat} {fs : List Value} (hx : h x = some (.inr (9, fs))) (y : va_E) : DB o (hu h x y) G Ls Ns wl pl rf cf Rl := hd.frm (X := fun q => q = x) (fun q hq e => by
  obtain ⟨w, h1, h2⟩ := hd.kind hq
  rw [e, hx] at h1
  cases h1
  rcases h2 with h2 | h2 <;> cases h2) (fun a ci fs' ha _ _ n9 _ e => by
  rw [e, hx] at ha
  simp at ha
  exact n9 ha.1.symm) hu_frm
/-- a new cell -/
theorem DB.fresh (hd : DB o h G Ls Ns wl pl rf cf Rl) {x : Nat} (hx : h x = none) (y : va_E) : DB o (hu h x y) G Ls Ns wl pl rf cf Rl := hd.frm (X := fun q => q = x) (fun q hq e => by
  obtain ⟨w, h1, h2⟩ := hd.kind hq
  rw [e, hx] at h1
  cases h1) (fun a ci fs' ha _ _ n9 _ e => by
  rw [e, hx] at ha
  cases ha) hu_frm
theorem DB.ch (hd : DB o h G Ls Ns wl pl rf cf Rl) (g : GD G) (cf' : Nat → Int32) : DB o (hu h (gch G) (.inl (o.2.1 0, 10, .inl cf'))) G Ls Ns wl pl rf cf' Rl := by
  obtain ⟨d1, d2, d3, d4, d5, d6, d7⟩ := hd
  obtain ⟨a1, a2, a3, a4, a5, a6, a7, a8, ⟨a9, a10, a11, a12⟩, ⟨a13, a14, a15⟩, a16, a17, a18⟩ := g
  have hf := hu_frm (h := h) (a := gch G) (x := .inl (o.2.1 0, 10, .inl cf'))
  refine ⟨d1.frm (X := fun q => q = gch G) ?_ (fun i hi q hq e => ?_) hf, d2.frm (X := fun q => q = gch G) ?_ (fun i hi q hq e => ?_) hf, d3.frm (X := fun q => q = gch G) (fun q hq e => ?_) hf, d4.frm (X := fun q => q = gch G) (fun q hq e => a12 (e ▸ hq)) hf, (hf _ (fun e => ?_)).trans d5, hu_eq _ _ _, d7.frm (X := fun q => q = gch G) (fun a ci fs he n0 _ _ _ e => ?_) hf⟩
  · obtain ⟨fs, e1, -⟩ := d1; intro e; rw [e, d6] at e1; simp at e1
  · exact nown_i (d1.slot hi) d6 (a10 i hi) (e ▸ hq)
  · obtain ⟨fs, e1, -⟩ := d2; intro e; rw [e, d6] at e1; simp at e1
  · exact nown_i (d2.slot hi) d6 (a11 i hi) (e ▸ hq)
  · exact nown_i d3 d6 a9 (e ▸ hq)
  · rw [e, d6] at d5; simp at d5
  · rw [e, d6] at he; simp at he
theorem DB.ru (hd : DB o h G Ls Ns wl pl rf cf Rl) (g : GD G) (rf' : Nat → Option Nat) (Rl' : List Ru) (hR : RL h rf' Rl') : DB o (hu h (gru G) (.inl (o.2.1 3, 10, .inr (.inr (.inr (.inr rf')))))) G Ls Ns wl pl rf' cf Rl' := by
  obtain ⟨d1, d2, d3, d4, d5, d6, d7⟩ := hd
  obtain ⟨a1, a2, a3, a4, a5, a6, a7, a8, ⟨a9, a10, a11, a12⟩, ⟨a13, a14, a15⟩, a16, a17, a18⟩ := g
  have hf := hu_frm (h := h) (a := gru G) (x := .inl (o.2.1 3, 10, .inr (.inr (.inr (.inr rf')))))
  refine ⟨d1.frm (X := fun q => q = gru G) (Ne.symm a14) (fun i hi q hq e => ?_) hf, d2.frm (X := fun q => q = gru G) (Ne.symm a15) (fun i hi q hq e => ?_) hf, d3.frm (X := fun q => q = gru G) (fun q hq e => ?_) hf, d4.frm (X := fun q => q = gru G) (fun q hq e => nownP_q d4 d5 (e ▸ hq)) hf, hu_eq _ _ _, (hf _ (fun e => ?_)).trans d6, hR.frm (X := fun q => q = gru G) (fun a ci fs he n0 _ _ _ e => ?_) hf⟩
  · exact nown_q (d1.slot hi) d5 (e ▸ hq)
  · exact nown_q (d2.slot hi) d5 (e ▸ hq)
  · exact nown_q d3 d5 (e ▸ hq)
  · rw [e, d5] at d6; simp at d6
  · rw [e, d5] at he; simp at he
theorem SA.len {s : Nat} {S : Nat → Qd} (hS : SA o h s S Ls) {i : Nat} (hi : i < 13) (hc : (S i).2.2.2 = capOf i) : (Ls i).length ≤ capOf i := by
  obtain ⟨_, _, _, _, _, hl, _⟩ := hS.slot hi
  rw [← hc]; exact hl
end DBK
theorem capOf_le (i : Nat) : capOf i ≤ 24 := by unfold capOf; split <;> omega
set_option maxHeartbeats 4000000 in
set_option maxRecDepth 100000 in
/-- gatherTable -/
theorem c_DV_gatherTable (l : Launch) (o : Om) (h : AH) (x t : Nat) (nn : Int32) (G : Gh) (Ls Ns : Nat → List Rw) (wl : List Rw) (pl : List Pn) (rf : Nat → Option Nat) (cf : Nat → Int32) (Rl : List Ru) (hd : DB o h G Ls Ns wl pl rf cf Rl) (g : GD G) (hx : DX h x G nn) (ht : t < 3) (hsrt : ∀ i, i < 13 → Srt (Ls i)) : Mt l o yDV_gatherTable cDV_gatherTable 2 none ({ frames := 4, cells := 0, slots := 0, locals := 125 } : Room) [.ref x, .int (nI t)] h (QV o (fun h' => DB o h' G Ls Ns (addP (nI t) (Ls t) pl) pl rf cf Rl ∧ h' x = h x ∧ Frm (ownG G) h h')) (0) (0) := by
  refine Met.ofV (by decide) (Nat.le_of_ble_eq_true rfl) (fun K hl ho C => ?_)
  subst hl; subst ho
  obtain ⟨fs0, hs0, hsl⟩ := hd.1
  unfold DX at hx
  obtain ⟨fw, gw, hRw⟩ := hd.2.2.1
  obtain ⟨fi, gi, hRi⟩ := (hsl t (by omega)).2
  have hll := hd.1.len (i := t) (by omega) (g.2.2.2.2.2.2.2.2.2.2.2.1 t (by omega))
  have hc24 := capOf_le t
  have hcw : (gwk G).2.2.2 = 576 := g.2.2.2.2.2.2.2.2.2.2.1
  have hpl : pl.length ≤ 12 := by obtain ⟨_, _, _, _, _, _, _, hl, _⟩ := hd.2.2.2.1; exact hl
  refine r_aload_n (n := 1) C dDV_gatherTable_0 rfl rfl ?_
  refine r_get (ci := 9) (n := 4) C hinDV rfl 2 (by decide) tw_68 rfl dDV_gatherTable_1 rfl hx rfl ?_
  refine r_aload_n (n := 5) C dDV_gatherTable_4 rfl rfl ?_
  refine r_get (ci := 9) (n := 8) C hinDV rfl 0 (by decide) tw_66 rfl dDV_gatherTable_5 rfl hx rfl ?_
  refine r_iload_n (n := 9) C dDV_gatherTable_8 rfl rfl ?_
  refine r_aald (n := 10) (t0 := 2) C dDV_gatherTable_9 rfl hs0 rfl t rfl (by omega) (by omega) (hsl t (by omega)).1 ?_
  refine r_cv (n := 13) (rn_V (z := 1) (ci := 0) (T := TRW) C (c_RW_copyFrom (Kl K) (Ko K) h (gwk G) fw gw wl (gS G t) fi gi (Ls t) hRw hRi (g.2.2.2.1 t (by omega)) (by omega)) tw_289 tw_134 tw_135 tw_2 tw_136 rfl rfl ndRW_copyFrom ⟨Nat.le_of_ble_eq_true rfl, Nat.le_of_ble_eq_true rfl⟩ hRw.1 rfl rfl rfl (Nat.le_of_ble_eq_true rfl) dDV_gatherTable_10 ⟨Nat.le_of_ble_eq_true rfl, Nat.le_of_ble_eq_true rfl⟩) rfl (fun h1 hq => ?_)
  obtain ⟨f1, g1, hR1, hO1⟩ := hq
  have hx1 := hd.x_wk hx hO1.frm
  have hd1 := hd.wk g hO1.frm ⟨f1, g1, hR1⟩
  obtain ⟨pt, pv, pb, hP1⟩ := hd1.2.2.2.1
  refine r_aload_n (n := 14) C dDV_gatherTable_13 rfl rfl ?_
  refine r_get (ci := 9) (n := 17) C hinDV rfl 3 (by decide) tw_69 rfl dDV_gatherTable_14 rfl hx1 rfl ?_
  refine r_aload_n (n := 18) C dDV_gatherTable_17 rfl rfl ?_
  refine r_get (ci := 9) (n := 21) C hinDV rfl 2 (by decide) tw_68 rfl dDV_gatherTable_18 rfl hx1 rfl ?_
  refine r_iload_n (n := 22) C dDV_gatherTable_21 rfl rfl ?_
  refine r_cv (n := 25) (rn_V (z := 2) (ci := 1) (T := TPD) C (c_PD_addTo (Kl K) (Ko K) h1 (gP G) pt pv pb pl (gwk G) f1 g1 (Ls t) (nI t) hP1 hR1 g.2.2.2.2.2.1 (hsrt t (by omega)) (by omega)) tw_448 tw_449 tw_450 tw_3 tw_451 rfl rfl ndPD_addTo ⟨Nat.le_of_ble_eq_true rfl, Nat.le_of_ble_eq_true rfl⟩ hP1.1 rfl rfl rfl (Nat.le_of_ble_eq_true rfl) dDV_gatherTable_22 ⟨Nat.le_of_ble_eq_true rfl, Nat.le_of_ble_eq_true rfl⟩) rfl (fun h2 hq => ?_)
  obtain ⟨f2, g2, hR2, hO2⟩ := hq
  exact r_vret C dDV_gatherTable_25 (Nat.le_refl _) (Nat.le_refl _) ⟨hd1.wk g hO2.frm ⟨f2, g2, hR2⟩, (hd1.x_wk hx1 hO2.frm).trans hx.symm, (hO1.frm.tr hO2.frm).mono (fun _ => ownG.wk)⟩
def negT (Ls : Nat → List Rw) (pl : List Pn) (t : Nat) : Bool := (addP (nI t) (Ls t) pl).any (fun r => decide (r.2 < 0))
def negA (Ls : Nat → List Rw) (pl : List Pn) : Bool := negT Ls pl 0 || (negT Ls pl 1 || negT Ls pl 2)
theorem negA_f {Ls : Nat → List Rw} {pl : List Pn} (h : ∀ t, t < 3 → negT Ls pl t = false) : negA Ls pl = false := by
  unfold negA; rw [h 0 (by omega), h 1 (by omega), h 2 (by omega)]; rfl
theorem negA_t {Ls : Nat → List Rw} {pl : List Pn} {t : Nat} (ht : t < 3) (h : negT Ls pl t = true) : negA Ls pl = true := by
  unfold negA
  rcases (show t = 0 ∨ t = 1 ∨ t = 2 by omega) with e | e | e <;> subst e <;> rw [h] <;> simp
set_option maxHeartbeats 4000000 in
set_option maxRecDepth 100000 in
/-- wouldFallBelowZero -/
theorem c_DV_wouldFallBelowZero (l : Launch) (o : Om) (h : AH) (x : Nat) (nn : Int32) (G : Gh) (Ls Ns : Nat → List Rw) (wl : List Rw) (pl : List Pn) (rf : Nat → Option Nat) (cf : Nat → Int32) (Rl : List Ru) (hd : DB o h G Ls Ns wl pl rf cf Rl) (g : GD G) (hx : DX h x G nn) (hsrt : ∀ i, i < 13 → Srt (Ls i)) : Mt l o yDV_wouldFallBelowZero cDV_wouldFallBelowZero 2 (some .boolean) ({ frames := 5, cells := 0, slots := 0, locals := 146 } : Room) [.ref x] h (QI o (fun r h' => ∃ wl', r = b01 (negA Ls pl) ∧ DB o h' G Ls Ns wl' pl rf cf Rl ∧ h' x = h x ∧ Frm (ownG G) h h')) (0) (0) := by
  refine Met.ofV (by decide) (Nat.le_of_ble_eq_true rfl) (fun K hl ho C => ?_)
  subst hl; subst ho
  have loop : ∀ (m t : Nat) (h1 : AH) (wl1 : List Rw), 3 - t = m → t ≤ 3 → DB (Ko K) h1 G Ls Ns wl1 pl rf cf Rl → h1 x = h x → Frm (ownG G) h h1 → (∀ t', t' < t → negT Ls pl t' = false) → V K h1 0 0 (EndQ K (QI (Ko K) (fun r h' => ∃ wl', r = b01 (negA Ls pl) ∧ DB (Ko K) h' G Ls Ns wl' pl rf cf Rl ∧ h' x = h x ∧ Frm (ownG G) h h')) 0 0) 2 [(0, .ref x), (1, .int (nI t))] [] := by
    intro m
    induction m using Nat.strongRecOn with
    | _ m ih =>
      intro t h1 wl1 hm ht hd1 hx1 hF1 hneg
      have hxx : DX h1 x G nn := hx1.trans hx
      have hbx : h1 x = _ := hxx
      refine r_iload_n (n := 3) C dDV_wouldFallBelowZero_2 rfl rfl ?_
      refine r_iconst (v := 3) (n := 4) C dDV_wouldFallBelowZero_3 rfl (by decide) ?_
      refine r_icmp_ge (tgt := 30) (n := 7) C dDV_wouldFallBelowZero_4 (by decide) rfl (fun c_4 => ?_) (fun c_4 => ?_)
      · have hie : t = 3 := by have := (nI_leI (a := 3) (b := t) (by omega) (by omega)).mp c_4; omega
        refine r_iconst (v := 0) (n := 31) C dDV_wouldFallBelowZero_30 rfl (by decide) ?_
        exact r_zret C dDV_wouldFallBelowZero_31 rfl (Nat.le_refl _) (Nat.le_refl _) ⟨wl1, by rw [negA_f (fun t0 h0 => hneg t0 (by omega))]; rfl, hd1, hx1, hF1⟩
      · have hlt : t < 3 := by
          rcases Nat.lt_or_ge t 3 with q | q
          · exact q
          · exact absurd (nI_le (a := 3) (b := t) q (by omega)) c_4
        refine r_aload_n (n := 8) C dDV_wouldFallBelowZero_7 rfl rfl ?_
        refine r_iload_n (n := 9) C dDV_wouldFallBelowZero_8 rfl rfl ?_
        refine r_cv (n := 12) (rn_V (z := 1) (ci := 9) (T := TDV) C (c_DV_gatherTable (Kl K) (Ko K) h1 x t nn G Ls Ns wl1 pl rf cf Rl hd1 g hxx hlt hsrt) tw_444 tw_446 ts_15 tw_1 tw_447 rfl rfl ndDV_gatherTable ⟨Nat.le_of_ble_eq_true rfl, Nat.le_of_ble_eq_true rfl⟩ hbx rfl rfl rfl (Nat.le_of_ble_eq_true rfl) dDV_wouldFallBelowZero_9 ⟨Nat.le_of_ble_eq_true rfl, Nat.le_of_ble_eq_true rfl⟩) rfl (fun h2 hq => ?_)
        obtain ⟨hd2, hx2, hF2⟩ := hq
        obtain ⟨fw, gw, hRw⟩ := hd2.2.2.1
        have hbx2 : h2 x = _ := hx2.trans hxx
        refine r_aload_n (n := 13) C dDV_wouldFallBelowZero_12 rfl rfl ?_
        refine r_get (ci := 9) (n := 16) C hinDV rfl 2 (by decide) tw_68 rfl dDV_wouldFallBelowZero_13 rfl hbx2 rfl ?_
        refine r_ci (n := 19) (rn_V (z := 0) (ci := 0) (T := TRW) C (c_RW_hasBelowZero (Kl K) (Ko K) h2 (gwk G) fw gw _ hRw) tw_453 tw_454 tw_455 tw_2 tw_456 rfl rfl ndRW_hasBelowZero ⟨Nat.le_of_ble_eq_true rfl, Nat.le_of_ble_eq_true rfl⟩ hRw.1 rfl rfl rfl (Nat.le_of_ble_eq_true rfl) dDV_wouldFallBelowZero_16 ⟨Nat.le_of_ble_eq_true rfl, Nat.le_of_ble_eq_true rfl⟩) rfl (fun y ah hq => ?_)
        obtain ⟨e1, e2⟩ := hq
        subst e1
        rw [e2]
        refine r_if_eq (tgt := 24) (n := 22) C dDV_wouldFallBelowZero_19 (by decide) rfl (fun c_19 => ?_) (fun c_19 => ?_)
        · have hz : negT Ls pl t = false := b01_f c_19
          refine r_iinc (n := 27) C dDV_wouldFallBelowZero_24 rfl rfl (nI_i t) (by decide) ?_
          refine r_goto (tgt := 2) C dDV_wouldFallBelowZero_27 (by decide) ?_
          refine V.byk (ls' := [(0, .ref x), (1, .int (nI (t + 1)))]) rfl ?_
          exact ih _ (by omega) (t + 1) h2 _ rfl (by omega) hd2 (hx2.trans hx1) (hF1.tr hF2) (lt_s hneg hz)
        · have hz : negT Ls pl t = true := b01_t c_19
          refine r_iconst (v := 1) (n := 23) C dDV_wouldFallBelowZero_22 rfl (by decide) ?_
          exact r_zret C dDV_wouldFallBelowZero_23 rfl (Nat.le_refl _) (Nat.le_refl _) ⟨_, by rw [negA_t hlt hz]; rfl, hd2, hx2.trans hx1, hF1.tr hF2⟩
  refine r_iconst (v := 0) (n := 1) C dDV_wouldFallBelowZero_0 rfl (by decide) ?_
  refine r_istore_n (n := 2) C dDV_wouldFallBelowZero_1 rfl (by decide) ?_
  refine V.byk (ls' := [(0, .ref x), (1, .int (nI 0))]) rfl ?_
  exact loop _ 0 h wl rfl (by omega) hd rfl Frm.rf (fun t0 h0 => absurd h0 (Nat.not_lt_zero _))
def newT (Ls : Nat → List Rw) (pl : List Pn) (t : Nat) : List Rw := nz (addP (nI t) (Ls t) pl)
def fitA (Ls : Nat → List Rw) (pl : List Pn) : Bool := fitB 12 (newT Ls pl 0) && (fitB 12 (newT Ls pl 1) && fitB 12 (newT Ls pl 2))
theorem fitA_t {Ls : Nat → List Rw} {pl : List Pn} (h : ∀ t, t < 3 → fitB 12 (newT Ls pl t) = true) : fitA Ls pl = true := by
  unfold fitA; rw [h 0 (by omega), h 1 (by omega), h 2 (by omega)]; rfl
theorem fitA_f {Ls : Nat → List Rw} {pl : List Pn} {t : Nat} (ht : t < 3) (h : fitB 12 (newT Ls pl t) = false) : fitA Ls pl = false := by
  unfold fitA
  rcases (show t = 0 ∨ t = 1 ∨ t = 2 by omega) with e | e | e <;> subst e <;> rw [h] <;> simp
theorem newT_srt {Ls : Nat → List Rw} {pl : List Pn} (hs : ∀ i, i < 13 → Srt (Ls i)) {t : Nat} (ht : t < 3) : Srt (newT Ls pl t) := nz_srt (addP_srt _ (hs t (by omega)))
theorem updL_srt {Ls : Nat → List Rw} {k : Nat} {N : List Rw} (hs : ∀ i, i < 13 → Srt (Ls i)) (hN : Srt N) : ∀ i, i < 13 → Srt (updL Ls k N i) := fun i hi => by
  unfold updL; split
  · exact hN
  · exact hs i hi
theorem swFrm {G : Gh} {h h' : AH} (hf : Frm (ownG (sw G)) h h') : Frm (ownG G) h h' := hf.mono (fun _ => ownG.sw)
set_option maxHeartbeats 4000000 in
set_option maxRecDepth 100000 in
/-- fillNextTables -/
theorem c_DV_fillNextTables (l : Launch) (o : Om) (h : AH) (x : Nat) (nn : Int32) (G : Gh) (Ls Ns : Nat → List Rw) (wl : List Rw) (pl : List Pn) (rf : Nat → Option Nat) (cf : Nat → Int32) (Rl : List Ru) (hd : DB o h G Ls Ns wl pl rf cf Rl) (g : GD G) (hx : DX h x G nn) (hsrt : ∀ i, i < 13 → Srt (Ls i)) (hsN : ∀ i, i < 13 → Srt (Ns i)) : Mt l o yDV_fillNextTables cDV_fillNextTables 2 (some .boolean) ({ frames := 5, cells := 0, slots := 0, locals := 146 } : Room) [.ref x] h (QI o (fun r h' => ∃ Ns' wl', r = b01 (fitA Ls pl) ∧ DB o h' G Ls Ns' wl' pl rf cf Rl ∧ (∀ i, i < 13 → Srt (Ns' i)) ∧ (fitA Ls pl = true → ∀ t, t < 3 → Ns' t = newT Ls pl t) ∧ h' x = h x ∧ Frm (ownG G) h h')) (0) (0) := by
  refine Met.ofV (by decide) (Nat.le_of_ble_eq_true rfl) (fun K hl ho C => ?_)
  subst hl; subst ho
  have loop : ∀ (m t : Nat) (h1 : AH) (wl1 : List Rw) (Ns1 : Nat → List Rw), 3 - t = m → t ≤ 3 → DB (Ko K) h1 G Ls Ns1 wl1 pl rf cf Rl → h1 x = h x → Frm (ownG G) h h1 → (∀ i, i < 13 → Srt (Ns1 i)) → (∀ t', t' < t → fitB 12 (newT Ls pl t') = true ∧ Ns1 t' = newT Ls pl t') → V K h1 0 0 (EndQ K (QI (Ko K) (fun r h' => ∃ Ns' wl', r = b01 (fitA Ls pl) ∧ DB (Ko K) h' G Ls Ns' wl' pl rf cf Rl ∧ (∀ i, i < 13 → Srt (Ns' i)) ∧ (fitA Ls pl = true → ∀ t, t < 3 → Ns' t = newT Ls pl t) ∧ h' x = h x ∧ Frm (ownG G) h h')) 0 0) 2 [(0, .ref x), (1, .int (nI t))] [] := by
    intro m
    induction m using Nat.strongRecOn with
    | _ m ih =>
      intro t h1 wl1 Ns1 hm ht hd1 hx1 hF1 hsN1 hfit
      have hxx : DX h1 x G nn := hx1.trans hx
      have hbx : h1 x = _ := hxx
      refine r_iload_n (n := 3) C dDV_fillNextTables_2 rfl rfl ?_
      refine r_iconst (v := 3) (n := 4) C dDV_fillNextTables_3 rfl (by decide) ?_
      refine r_icmp_ge (tgt := 33) (n := 7) C dDV_fillNextTables_4 (by decide) rfl (fun c_4 => ?_) (fun c_4 => ?_)
      · have hie : t = 3 := by have := (nI_leI (a := 3) (b := t) (by omega) (by omega)).mp c_4; omega
        refine r_iconst (v := 1) (n := 34) C dDV_fillNextTables_33 rfl (by decide) ?_
        exact r_zret C dDV_fillNextTables_34 rfl (Nat.le_refl _) (Nat.le_refl _) ⟨Ns1, wl1, by rw [fitA_t (fun t0 h0 => (hfit t0 (by omega)).1)]; rfl, hd1, hsN1, fun _ t0 h0 => (hfit t0 (by omega)).2, hx1, hF1⟩
      · have hlt : t < 3 := by
          rcases Nat.lt_or_ge t 3 with q | q
          · exact q
          · exact absurd (nI_le (a := 3) (b := t) q (by omega)) c_4
        refine r_aload_n (n := 8) C dDV_fillNextTables_7 rfl rfl ?_
        refine r_iload_n (n := 9) C dDV_fillNextTables_8 rfl rfl ?_
        refine r_cv (n := 12) (rn_V (z := 1) (ci := 9) (T := TDV) C (c_DV_gatherTable (Kl K) (Ko K) h1 x t nn G Ls Ns1 wl1 pl rf cf Rl hd1 g hxx hlt hsrt) tw_444 tw_446 ts_15 tw_1 tw_447 rfl rfl ndDV_gatherTable ⟨Nat.le_of_ble_eq_true rfl, Nat.le_of_ble_eq_true rfl⟩ hbx rfl rfl rfl (Nat.le_of_ble_eq_true rfl) dDV_fillNextTables_9 ⟨Nat.le_of_ble_eq_true rfl, Nat.le_of_ble_eq_true rfl⟩) rfl (fun h2 hq => ?_)
        obtain ⟨hd2, hx2, hF2⟩ := hq
        have hbx2 : h2 x = _ := hx2.trans hxx
        obtain ⟨fs0, hs0, hsl⟩ := hd2.2.1
        have hc12 : capOf t = 12 := if_pos hlt
        refine r_aload_n (n := 13) C dDV_fillNextTables_12 rfl rfl ?_
        refine r_aload_n (n := 14) C dDV_fillNextTables_13 rfl rfl ?_
        refine r_get (ci := 9) (n := 17) C hinDV rfl 1 (by decide) tw_67 rfl dDV_fillNextTables_14 rfl hbx2 rfl ?_
        refine r_iload_n (n := 18) C dDV_fillNextTables_17 rfl rfl ?_
        refine r_aald (n := 19) (t0 := 2) C dDV_fillNextTables_18 rfl hs0 rfl t rfl (by omega) (by omega) (hsl t (by omega)).1 ?_
        refine r_ci (n := 22) (rn_V (z := 1) (ci := 9) (T := TDV) C (c_DV_settleWork (Kl K) (Ko K) h2 x t _ (sw G) Ns1 Ls _ pl rf cf Rl hd2.sw g.sw hbx2 rfl (by omega)) tw_275 tw_277 ts_12 tw_1 tw_278 rfl rfl ndDV_settleWork ⟨Nat.le_of_ble_eq_true rfl, Nat.le_of_ble_eq_true rfl⟩ hbx2 rfl rfl rfl (Nat.le_of_ble_eq_true rfl) dDV_fillNextTables_19 ⟨Nat.le_of_ble_eq_true rfl, Nat.le_of_ble_eq_true rfl⟩) rfl (fun y h3 hq => ?_)
        rw [hc12] at hq
        obtain ⟨e1, hd3, hx3, hF3⟩ := hq
        subst e1
        have hd3 := hd3.sw
        refine r_if_ne (tgt := 27) (n := 25) C dDV_fillNextTables_22 (by decide) rfl (fun c_22 => ?_) (fun c_22 => ?_)
        · have hz : fitB 12 (newT Ls pl t) = true := b01_t c_22
          refine r_iinc (n := 30) C dDV_fillNextTables_27 rfl rfl (nI_i t) (by decide) ?_
          refine r_goto (tgt := 2) C dDV_fillNextTables_30 (by decide) ?_
          refine V.byk (ls' := [(0, .ref x), (1, .int (nI (t + 1)))]) rfl ?_
          rw [show fitB 12 (nz (addP (nI t) (Ls t) pl)) = true from hz, if_pos rfl] at hd3
          refine ih _ (by omega) (t + 1) h3 _ (updL Ns1 t (newT Ls pl t)) rfl (by omega) hd3 (hx3.trans (hx2.trans hx1)) ((hF1.tr hF2).tr (swFrm hF3)) (updL_srt hsN1 (newT_srt hsrt hlt)) (fun t0 h0 => ?_)
          unfold updL
          by_cases e : t0 = t
          · subst e; exact ⟨hz, if_pos rfl⟩
          · rw [if_neg e]; exact hfit t0 (by omega)
        · have hz : fitB 12 (newT Ls pl t) = false := b01_f c_22
          rw [show fitB 12 (nz (addP (nI t) (Ls t) pl)) = false from hz, if_neg (by decide)] at hd3
          refine r_iconst (v := 0) (n := 26) C dDV_fillNextTables_25 rfl (by decide) ?_
          exact r_zret C dDV_fillNextTables_26 rfl (Nat.le_refl _) (Nat.le_refl _) ⟨Ns1, _, by rw [fitA_f hlt hz]; rfl, hd3, hsN1, (fun hc => by rw [fitA_f hlt hz] at hc; cases hc), hx3.trans (hx2.trans hx1), (hF1.tr hF2).tr (swFrm hF3)⟩
  refine r_iconst (v := 0) (n := 1) C dDV_fillNextTables_0 rfl (by decide) ?_
  refine r_istore_n (n := 2) C dDV_fillNextTables_1 rfl (by decide) ?_
  refine V.byk (ls' := [(0, .ref x), (1, .int (nI 0))]) rfl ?_
  exact loop _ 0 h wl Ns rfl (by omega) hd rfl Frm.rf hsN (fun t0 h0 => absurd h0 (Nat.not_lt_zero _))
def dsum (Ls Ns : Nat → List Rw) : Nat → Nat
  | 0 => 0
  | j + 1 => dsum Ls Ns j + diffs (Ls (3 + j)) (Ns (3 + j))
def cfN (Ls Ns : Nat → List Rw) (n : Nat) (cf : Nat → Int32) : Nat → Int32 := fun j => if j < n then nI (diffs (Ls (3 + j)) (Ns (3 + j))) else cf j
theorem cfN_0 (Ls Ns : Nat → List Rw) (cf : Nat → Int32) : cfN Ls Ns 0 cf = cf := by funext j; simp [cfN]
theorem cfN_s (Ls Ns : Nat → List Rw) (n : Nat) (cf : Nat → Int32) : upd (cfN Ls Ns n cf) n (nI (diffs (Ls (3 + n)) (Ns (3 + n)))) = cfN Ls Ns (n + 1) cf := by
  funext j
  by_cases e : j = n
  · subst e; rw [pk_us]; simp [cfN]
  · rw [pk_un e]
    unfold cfN
    by_cases h : j < n
    · rw [if_pos h, if_pos (by omega)]
    · rw [if_neg h, if_neg (by omega)]
set_option maxHeartbeats 4000000 in
set_option maxRecDepth 100000 in
/-- noteChangesSince -/
theorem c_DV_noteChangesSince (l : Launch) (o : Om) (h : AH) (x : Nat) (G : Gh) (Ls Ns : Nat → List Rw) (wl : List Rw) (pl : List Pn) (rf : Nat → Option Nat) (cf : Nat → Int32) (Rl : List Ru) (hd : DB o h G Ls Ns wl pl rf cf Rl) (g : GD G) (hx : DX h x G (nI Rl.length)) (hnd : Rl.length ≤ 10) (hsrt : ∀ i, i < 13 → Srt (Ls i)) (hsN : ∀ i, i < 13 → Srt (Ns i)) : Mt l o yDV_noteChangesSince cDV_noteChangesSince 5 (some .int) ({ frames := 4, cells := 0, slots := 0, locals := 98 } : Room) [.ref x, .ref (gnx G)] h (QI o (fun r h' => r = nI (dsum Ls Ns Rl.length) ∧ DB o h' G Ls Ns wl pl rf (cfN Ls Ns Rl.length cf) Rl ∧ h' x = h x ∧ Frm (ownG G) h h')) (0) (0) := by
  refine Met.ofV (by decide) (Nat.le_of_ble_eq_true rfl) (fun K hl ho C => ?_)
  subst hl; subst ho
  unfold DX at hx
  have loop : ∀ (m j : Nat) (h1 : AH), Rl.length - j = m → j ≤ Rl.length → DB (Ko K) h1 G Ls Ns wl pl rf (cfN Ls Ns j cf) Rl → h1 x = h x → Frm (ownG G) h h1 → V K h1 0 0 (EndQ K (QI (Ko K) (fun r h' => r = nI (dsum Ls Ns Rl.length) ∧ DB (Ko K) h' G Ls Ns wl pl rf (cfN Ls Ns Rl.length cf) Rl ∧ h' x = h x ∧ Frm (ownG G) h h')) 0 0) 4 [(0, .ref x), (1, .ref (gnx G)), (2, .int (nI (dsum Ls Ns j))), (3, .int (nI j))] [] := by
    intro m
    induction m using Nat.strongRecOn with
    | _ m ih =>
      intro j h1 hm hj hd1 hx1 hF1
      have hbx : h1 x = _ := hx1.trans hx
      obtain ⟨fs0, hs0, hsl⟩ := hd1.1
      obtain ⟨ft0, ht0, htl⟩ := hd1.2.1
      have hch := hd1.2.2.2.2.2.1
      refine r_iload_n (n := 5) C dDV_noteChangesSince_4 rfl rfl ?_
      refine r_aload_n (n := 6) C dDV_noteChangesSince_5 rfl rfl ?_
      refine r_get (ci := 9) (n := 9) C hinDV rfl 6 (by decide) tw_72 rfl dDV_noteChangesSince_6 rfl (by assumption) rfl ?_
      refine r_icmp_ge (tgt := 53) (n := 12) C dDV_noteChangesSince_9 (by decide) rfl (fun c_9 => ?_) (fun c_9 => ?_)
      · have hie : j = Rl.length := by have := (nI_leI (a := Rl.length) (b := j) (by omega) (by omega)).mp c_9; omega
        refine r_iload_n (n := 54) C dDV_noteChangesSince_53 rfl rfl ?_
        exact r_iret C dDV_noteChangesSince_54 (Nat.le_refl _) (Nat.le_refl _) ⟨by rw [hie], by rw [← hie]; exact hd1, hx1, hF1⟩
      · have hlt : j < Rl.length := by
          rcases Nat.lt_or_ge j Rl.length with q | q
          · exact q
          · exact absurd (nI_le (a := Rl.length) (b := j) q (by omega)) c_9
        obtain ⟨fi, gi, hRi⟩ := (hsl (3 + j) (by omega)).2
        obtain ⟨fb, gb, hRb⟩ := (htl (3 + j) (by omega)).2
        refine r_iload_n (n := 13) C dDV_noteChangesSince_12 rfl rfl ?_
        refine r_ci (n := 16) (rn_S (z := 1) C (c_DV_slotOf (Kl K) (Ko K) h1 j) tw_272 tw_273 tw_1 tw_274 rfl rfl ndDV_slotOf.2 ⟨Nat.le_of_ble_eq_true rfl, Nat.le_of_ble_eq_true rfl⟩ rfl rfl (Nat.le_of_ble_eq_true rfl) dDV_noteChangesSince_13 ⟨Nat.le_of_ble_eq_true rfl, Nat.le_of_ble_eq_true rfl⟩) rfl (fun y ah hq => ?_)
        obtain ⟨e1, e2⟩ := hq
        subst e1
        rw [e2]
        refine r_istore (n := 18) C dDV_noteChangesSince_16 rfl (by decide) ?_
        refine r_aload_n (n := 19) C dDV_noteChangesSince_18 rfl rfl ?_
        refine r_get (ci := 9) (n := 22) C hinDV rfl 5 (by decide) tw_71 rfl dDV_noteChangesSince_19 rfl hbx rfl ?_
        refine r_iload_n (n := 23) C dDV_noteChangesSince_22 rfl rfl ?_
        refine r_aload_n (n := 24) C dDV_noteChangesSince_23 rfl rfl ?_
        refine r_get (ci := 9) (n := 27) C hinDV rfl 0 (by decide) tw_66 rfl dDV_noteChangesSince_24 rfl hbx rfl ?_
        refine r_iload (n := 29) C dDV_noteChangesSince_27 rfl rfl ?_
        refine r_aald (n := 30) (t0 := 2) C dDV_noteChangesSince_29 rfl hs0 rfl (3 + j) rfl (by omega) (by omega) (hsl (3 + j) (by omega)).1 ?_
        refine r_aload_n (n := 31) C dDV_noteChangesSince_30 rfl rfl ?_
        refine r_iload (n := 33) C dDV_noteChangesSince_31 rfl rfl ?_
        refine r_aald (n := 34) (t0 := 2) C dDV_noteChangesSince_33 rfl ht0 rfl (3 + j) rfl (by omega) (by omega) (htl (3 + j) (by omega)).1 ?_
        refine r_ci (n := 37) (rn_V (z := 1) (ci := 0) (T := TRW) C (c_RW_differencesFrom (Kl K) (Ko K) h1 (gS G (3 + j)) fi gi (Ls (3 + j)) (gT G (3 + j)) fb gb (Ns (3 + j)) hRi hRb (hsrt (3 + j) (by omega)) (hsN (3 + j) (by omega))) tw_469 tw_470 tw_471 tw_2 tw_472 rfl rfl ndRW_differencesFrom ⟨Nat.le_of_ble_eq_true rfl, Nat.le_of_ble_eq_true rfl⟩ hRi.1 rfl rfl rfl (Nat.le_of_ble_eq_true rfl) dDV_noteChangesSince_34 ⟨Nat.le_of_ble_eq_true rfl, Nat.le_of_ble_eq_true rfl⟩) rfl (fun y ah hq => ?_)
        obtain ⟨e1, e2⟩ := hq
        subst e1
        rw [e2]
        refine r_iast (n := 38) C dDV_noteChangesSince_37 rfl hch j rfl (by omega) (by omega) ?_
        have hd2 := hd1.ch g (upd (cfN Ls Ns j cf) j (nI (diffs (Ls (3 + j)) (Ns (3 + j)))))
        have hchx : gch G ≠ x := fun e => by rw [e, hbx] at hch; simp at hch
        generalize eh2 : hu h1 (gch G) _ = h2 at hd2
        have hbx2 : h2 x = _ := ((congrFun eh2.symm x).trans (hu_ne _ _ (Ne.symm hchx))).trans hbx
        have hx2 : h2 x = h x := ((congrFun eh2.symm x).trans (hu_ne _ _ (Ne.symm hchx))).trans hx1
        have hF2 : Frm (ownG G) h h2 := hF1.tr (eh2 ▸ hu_frm.mono (fun q e => Or.inr (Or.inr (Or.inr (Or.inl e)))))
        have hch2 := hd2.2.2.2.2.2.1
        refine r_iload_n (n := 39) C dDV_noteChangesSince_38 rfl rfl ?_
        refine r_aload_n (n := 40) C dDV_noteChangesSince_39 rfl rfl ?_
        refine r_get (ci := 9) (n := 43) C hinDV rfl 5 (by decide) tw_71 rfl dDV_noteChangesSince_40 rfl hbx2 rfl ?_
        refine r_iload_n (n := 44) C dDV_noteChangesSince_43 rfl rfl ?_
        refine r_iald (n := 45) C dDV_noteChangesSince_44 rfl hch2 j rfl (by omega) (by omega) ?_
        rw [pk_us]
        refine r_iadd (n := 46) C dDV_noteChangesSince_45 rfl ?_
        refine V.eqi (y := nI (dsum Ls Ns (j + 1))) (nI_add _ _) ?_
        refine r_istore_n (n := 47) C dDV_noteChangesSince_46 rfl (by decide) ?_
        refine r_iinc (n := 50) C dDV_noteChangesSince_47 rfl rfl (nI_i j) (by decide) ?_
        refine r_goto (tgt := 4) C dDV_noteChangesSince_50 (by decide) ?_
        refine V.byk (ls' := [(0, .ref x), (1, .ref (gnx G)), (2, .int (nI (dsum Ls Ns (j + 1)))), (3, .int (nI (j + 1)))]) rfl ?_
        rw [cfN_s] at hd2
        exact ih _ (by omega) (j + 1) h2 rfl (by omega) hd2 hx2 hF2
  refine r_iconst (v := 0) (n := 1) C dDV_noteChangesSince_0 rfl (by decide) ?_
  refine r_istore_n (n := 2) C dDV_noteChangesSince_1 rfl (by decide) ?_
  refine r_iconst (v := 0) (n := 3) C dDV_noteChangesSince_2 rfl (by decide) ?_
  refine r_istore_n (n := 4) C dDV_noteChangesSince_3 rfl (by decide) ?_
  refine V.byk (ls' := [(0, .ref x), (1, .ref (gnx G)), (2, .int (nI 0)), (3, .int (nI 0))]) rfl ?_
  exact loop _ 0 h rfl (Nat.zero_le _) (by rw [cfN_0]; exact hd) rfl Frm.rf
end
section
/-! DELTAVIEWS: the state that its calls show, make and the calls that make a node -/
abbrev Sx : Type := (Nat → List Rw) × List Pn × (Nat → Int32) × List Ru
def CI (o : Om) (h : AH) (x : Nat) (G : Gh) (S : Sx) : Prop := GD G ∧ DX h x G (nI S.2.2.2.length) ∧ S.2.2.2.length ≤ 10 ∧ ∃ (Ls Ns : Nat → List Rw) (wl : List Rw) (rf : Nat → Option Nat) (cf : Nat → Int32), DB o h G Ls Ns wl S.2.1 rf cf S.2.2.2 ∧ (∀ i, i < 13 → Srt (Ls i)) ∧ (∀ i, i < 13 → Srt (Ns i)) ∧ (∀ i, i < 3 + S.2.2.2.length → Ls i = S.1 i) ∧ (∀ j, j < S.2.2.2.length → cf j = S.2.2.1 j)
def xown (h : AH) (x : Nat) (G : Gh) (q : Nat) : Prop := q = x ∨ ownG G q ∨ h q = none
def Upd (o : Om) (h h' : AH) (x : Nat) (G : Gh) (S : Sx) : Prop := ∃ G', CI o h' x G' S ∧ (∀ q, ownG G' q → ownG G q) ∧ Frm (xown h x G) h h'
theorem Upd.rf {o : Om} {h : AH} {x : Nat} {G : Gh} {S : Sx} (hc : CI o h x G S) : Upd o h h x G S := ⟨G, hc, fun _ h => h, Frm.rf⟩
theorem Frm.x {h h' : AH} {x : Nat} {G : Gh} (hf : Frm (ownG G) h h') : Frm (xown h x G) h h' := hf.mono (fun _ hq => Or.inr (Or.inl hq))
theorem rfill_congr {R : Ru} {j : Nat} (hok : rok j R) {Ls Ms : Nat → List Rw} (h3 : 3 ≤ j) (e : ∀ i, i < j → Ls i = Ms i) : rfill R Ls = rfill R Ms := by
  obtain ⟨kd, a, b, c, d, f, n⟩ := R
  rcases kd with _ | _ | _ | _ | _ | _ | _ | kd
  · have k1 : a < 3 := hok
    show Ls a = Ms a
    rw [e a (by omega)]
  · obtain ⟨k1, k2, -⟩ : 3 ≤ a ∧ a < j ∧ b < 3 ∧ c < 4 := hok
    show (Ls a).foldl _ [] = (Ms a).foldl _ []
    rw [e a k2]
  · obtain ⟨k1, k2, -⟩ : 3 ≤ a ∧ a < j ∧ b < 6 ∧ c < 6 ∧ d < 6 := hok
    show (Ls a).foldl _ [] = (Ms a).foldl _ []
    rw [e a k2]
  · obtain ⟨k1, k2, k3, k4, -⟩ : 3 ≤ a ∧ a < j ∧ 3 ≤ b ∧ b < j ∧ c < 3 ∧ d < 3 ∧ f < 216 := hok
    show (Ls a).foldl (JO c d (f / 36) (f / 6 % 6) (f % 6) (Ls b)) [] = (Ms a).foldl (JO c d (f / 36) (f / 6 % 6) (f % 6) (Ms b)) []
    rw [e a k2, e b k4]
  · obtain ⟨k1, k2, k3, k4, -⟩ : 3 ≤ a ∧ a < j ∧ 3 ≤ b ∧ b < j ∧ c < 2 := hok
    show (Ls b).foldl _ (Ls a) = (Ms b).foldl _ (Ms a)
    rw [e a k2, e b k4]
  · obtain ⟨k1, k2⟩ : 3 ≤ a ∧ a < j := hok
    show (Ls a).foldl _ [] = (Ms a).foldl _ []
    rw [e a k2]
  · obtain ⟨k1, k2, -⟩ : 3 ≤ a ∧ a < j ∧ b < 3 ∧ c < 3 ∧ d < 4 := hok
    show GRi d b c (Ls a) (Ls a).length = GRi d b c (Ms a) (Ms a).length
    rw [e a k2]
  · exact absurd hok id
theorem Gd.srt0 {F : List Rw → Rw → List Rw} (hF : Gd F) (M : List Rw) : Srt (M.foldl F []) := hF.srt M List.Pairwise.nil
theorem rfill_srt {R : Ru} {j : Nat} (hok : rok j R) {Ls : Nat → List Rw} (hj : j ≤ 13) (h3 : 3 ≤ j) (hs : ∀ i, i < 13 → Srt (Ls i)) : Srt (rfill R Ls) := by
  obtain ⟨kd, a, b, c, d, f, n⟩ := R
  rcases kd with _ | _ | _ | _ | _ | _ | _ | kd
  · have k1 : a < 3 := hok
    exact hs a (by omega)
  · exact (gdF b c n).srt0 _
  · exact (gdM b c d).srt0 _
  · exact JO_srt _ List.Pairwise.nil
  · obtain ⟨k1, k2, k3, k4, -⟩ : 3 ≤ a ∧ a < j ∧ 3 ≤ b ∧ b < j ∧ c < 2 := hok
    exact (gdC (sgF c)).srt _ (hs a (by omega))
  · exact gdD.srt0 _
  · exact GRi_srt _ _ _ _ _
  · exact absurd hok id
def mkOK (R : Ru) (S : Sx) : Bool := decide (S.2.2.2.length < 10) && fitB 24 (nz (rfill R S.1))
def mkS (R : Ru) (S : Sx) : Int32 × Sx := if mkOK R S = true then (nI S.2.2.2.length, (updL S.1 (3 + S.2.2.2.length) (nz (rfill R S.1)), S.2.1, upd S.2.2.1 S.2.2.2.length 0, S.2.2.2 ++ [R])) else (-2, S)
theorem castR {K : Kx} {cc : ByteArray} {nL : Nat} {own nm : String} {rm : Room} {ret : Option FieldType} (C : Cx K cc nL own rm ret nm) {R : Ru} {j : Nat} (hok : rok j R) : ∃ (ci : Nat) (fs : List Value) (r : vw_C), rcell R = .inr (ci, fs) ∧ vwCl[ci]? = some r ∧ va_Nw (.castable r.1 "DeltaViews$Rule") (Ks K) := by
  have hx := C.2.2.2.2.2.2.2.2.2.2.2
  obtain ⟨kd, a, b, c, d, f, n⟩ := R
  rcases kd with _ | _ | _ | _ | _ | _ | _ | kd
  · exact ⟨_, _, _, rfl, rfl, (hx ("DeltaViews$TableRule", yTR_fill) (by decide +kernel)).2.2.2.2⟩
  · exact ⟨_, _, _, rfl, rfl, (hx ("DeltaViews$FilterRule", yFR_fill) (by decide +kernel)).2.2.2.2⟩
  · exact ⟨_, _, _, rfl, rfl, (hx ("DeltaViews$MapRule", yMR_fill) (by decide +kernel)).2.2.2.2⟩
  · exact ⟨_, _, _, rfl, rfl, (hx ("DeltaViews$JoinRule", yJR_fill) (by decide +kernel)).2.2.2.2⟩
  · exact ⟨_, _, _, rfl, rfl, (hx ("DeltaViews$CombineRule", yCR_fill) (by decide +kernel)).2.2.2.2⟩
  · exact ⟨_, _, _, rfl, rfl, (hx ("DeltaViews$DistinctRule", yDR_fill) (by decide +kernel)).2.2.2.2⟩
  · exact ⟨_, _, _, rfl, rfl, (hx ("DeltaViews$GroupRule", yGR_fill) (by decide +kernel)).2.2.2.2⟩
  · exact absurd hok id
theorem DB.nrule {o : Om} {h : AH} {G : Gh} {Ls Ns : Nat → List Rw} {wl : List Rw} {pl : List Pn} {rf : Nat → Option Nat} {cf : Nat → Int32} {Rl : List Ru} (hd : DB o h G Ls Ns wl pl rf cf Rl) {rr : Nat} {R : Ru} (hr : h rr = some (rcell R)) : ¬ ownG G rr := fun hq => by
  obtain ⟨e, h1, h2⟩ := hd.kind hq
  obtain ⟨ci, fs, e3, n0, n1, -, -⟩ := rcell_obj R
  rw [hr, e3] at h1
  cases h1
  rcases h2 with h2 | h2
  · exact n0 h2
  · exact n1 h2
theorem DB.n9 {o : Om} {h : AH} {G : Gh} {Ls Ns : Nat → List Rw} {wl : List Rw} {pl : List Pn} {rf : Nat → Option Nat} {cf : Nat → Int32} {Rl : List Ru} (hd : DB o h G Ls Ns wl pl rf cf Rl) {x : Nat} {fs : List Value} (hx : h x = some (.inr (9, fs))) : ¬ ownG G x := fun hq => by
  obtain ⟨e, h1, h2⟩ := hd.kind hq
  rw [hx] at h1
  cases h1
  rcases h2 with h2 | h2 <;> cases h2
theorem CI.fresh {o : Om} {h : AH} {x : Nat} {G : Gh} {S : Sx} (hc : CI o h x G S) {rr : Nat} (hr : h rr = none) (y : va_E) : CI o (hu h rr y) x G S := by
  obtain ⟨g, hx, hn, Ls, Ns, wl, rf, cf, hd, h1⟩ := hc
  refine ⟨g, ?_, hn, Ls, Ns, wl, rf, cf, hd.fresh hr y, h1⟩
  unfold DX at hx ⊢
  rw [hu_ne _ _ (fun e => by rw [e, hr] at hx; cases hx)]
  exact hx
set_option maxHeartbeats 4000000 in
set_option maxRecDepth 100000 in
/-- make -/
theorem c_DV_make (l : Launch) (o : Om) (h : AH) (x rr : Nat) (R : Ru) (G : Gh) (S : Sx) (hc : CI o h x G S) (hrr : h rr = some (rcell R)) (hok : rok (3 + S.2.2.2.length) R) : Mt l o yDV_make cDV_make 3 (some .int) ({ frames := 6, cells := 0, slots := 0, locals := 174 } : Room) [.ref x, .ref rr] h (QI o (fun r h' => r = (mkS R S).1 ∧ Upd o h h' x G (mkS R S).2)) (0) (0) := by
  refine Met.ofV (by decide) (Nat.le_of_ble_eq_true rfl) (fun K hl ho C => ?_)
  subst hl; subst ho
  obtain ⟨g, hx, hn, Ls, Ns, wl, rf, cf, hd, hsL, hsN, hag, hcf⟩ := id hc
  unfold DX at hx
  refine r_aload_n (n := 1) C dDV_make_0 rfl rfl ?_
  refine r_get (ci := 9) (n := 4) C hinDV rfl 6 (by decide) tw_72 rfl dDV_make_1 rfl hx rfl ?_
  refine r_bipush (v := 10) (n := 6) C dDV_make_4 rfl (by decide) ?_
  refine r_icmp_ge (tgt := 25) (n := 9) C dDV_make_6 (by decide) rfl (fun c_6 => ?_) (fun c_6 => ?_)
  · have hz : mkOK R S = false := by
      have : ¬ S.2.2.2.length < 10 := by have := (nI_leI (a := 10) (b := S.2.2.2.length) (by omega) (by omega)).mp c_6; omega
      unfold mkOK; rw [decide_eq_false this]; rfl
    refine r_bipush (v := -2) (n := 27) C dDV_make_25 rfl (by decide) ?_
    exact r_iret C dDV_make_27 (Nat.le_refl _) (Nat.le_refl _) ⟨by unfold mkS; rw [hz]; rfl, by unfold mkS; rw [hz]; exact Upd.rf hc⟩
  · have hnd : S.2.2.2.length < 10 := by
      rcases Nat.lt_or_ge S.2.2.2.length 10 with q | q
      · exact q
      · exact absurd (nI_le (a := 10) (b := S.2.2.2.length) q (by omega)) c_6
    have hrc := rfill_congr hok (by omega) hag
    refine r_aload_n (n := 10) C dDV_make_9 rfl rfl ?_
    refine r_aload_n (n := 11) C dDV_make_10 rfl rfl ?_
    refine r_aload_n (n := 12) C dDV_make_11 rfl rfl ?_
    refine r_get (ci := 9) (n := 15) C hinDV rfl 0 (by decide) tw_66 rfl dDV_make_12 rfl hx rfl ?_
    refine r_aload_n (n := 16) C dDV_make_15 rfl rfl ?_
    refine r_get (ci := 9) (n := 19) C hinDV rfl 6 (by decide) tw_72 rfl dDV_make_16 rfl hx rfl ?_
    refine r_ci (n := 22) (rn_V (z := 3) (ci := 9) (T := TDV) C (c_DV_fillNode (Kl K) (Ko K) h x rr S.2.2.2.length _ R G Ls Ns wl S.2.1 rf cf S.2.2.2 hd g hx rfl hnd hrr hok hsL) tw_115 tw_117 ts_1 tw_1 tw_118 rfl rfl ndDV_fillNode ⟨Nat.le_of_ble_eq_true rfl, Nat.le_of_ble_eq_true rfl⟩ hx rfl rfl rfl (Nat.le_of_ble_eq_true rfl) dDV_make_19 ⟨Nat.le_of_ble_eq_true rfl, Nat.le_of_ble_eq_true rfl⟩) rfl (fun y h1 hq => ?_)
    rw [hrc] at hq
    obtain ⟨e1, hd1, hxe, hF1⟩ := hq
    subst e1
    have hx1 : h1 x = _ := hxe.trans hx
    refine r_if_ne (tgt := 28) (n := 25) C dDV_make_22 (by decide) rfl (fun c_22 => ?_) (fun c_22 => ?_)
    · have hz0 : fitB 24 (nz (rfill R S.1)) = true := b01_t c_22
      have hz : mkOK R S = true := by unfold mkOK; rw [hz0, decide_eq_true hnd]; rfl
      rw [hz0, if_pos rfl] at hd1
      have hrr1 : h1 rr = some (rcell R) := (hF1 rr (hd.nrule hrr)).trans hrr
      obtain ⟨ci, fsr, rc, ecell, ecl, hcast⟩ := castR C hok
      have hrr1c : h1 rr = some (.inr (ci, fsr)) := hrr1.trans (by rw [ecell])
      have hru := hd1.2.2.2.2.1
      refine r_aload_n (n := 29) C dDV_make_28 rfl rfl ?_
      refine r_get (ci := 9) (n := 32) C hinDV rfl 6 (by decide) tw_72 rfl dDV_make_29 rfl hx1 rfl ?_
      refine r_istore_n (n := 33) C dDV_make_32 rfl (by decide) ?_
      refine r_aload_n (n := 34) C dDV_make_33 rfl rfl ?_
      refine r_get (ci := 9) (n := 37) C hinDV rfl 4 (by decide) tw_70 rfl dDV_make_34 rfl hx1 rfl ?_
      refine r_iload_n (n := 38) C dDV_make_37 rfl rfl ?_
      refine r_aload_n (n := 39) C dDV_make_38 rfl rfl ?_
      refine r_aastO (n := 40) (t0 := 3) C dDV_make_39 rfl hru hrr1c ecl rfl hcast S.2.2.2.length rfl (by omega) (by omega) ?_
      have hRL : RL h1 (va_up rf S.2.2.2.length (some rr)) (S.2.2.2 ++ [R]) := by
        intro j R0 hj
        by_cases hjl : j < S.2.2.2.length
        · rw [List.getElem?_append_left hjl] at hj
          obtain ⟨a, ha1, ha2, ha3⟩ := hd1.2.2.2.2.2.2 j R0 hj
          exact ⟨a, by rw [va_up_ne _ _ (by omega)]; exact ha1, ha2, ha3⟩
        · rw [List.getElem?_append_right (by omega)] at hj
          have hz1 := (List.getElem?_eq_some_iff.mp hj).1
          have ej : j = S.2.2.2.length := by simp at hz1; omega
          subst ej
          rw [Nat.sub_self] at hj
          cases hj
          exact ⟨rr, va_up_self _ _ _, hrr1, hok⟩
      have hd2 := hd1.ru g _ _ hRL
      have hrux : gru G ≠ x := fun e => by rw [e, hx1] at hru; simp at hru
      generalize eh2 : hu h1 (gru G) _ = h2 at hd2
      have hx2 : h2 x = _ := ((congrFun eh2.symm x).trans (hu_ne _ _ (Ne.symm hrux))).trans hx1
      have hF2 : Frm (ownG G) h h2 := hF1.tr (eh2 ▸ hu_frm.mono (fun q e => Or.inr (Or.inr (Or.inl e))))
      have hch := hd2.2.2.2.2.2.1
      refine r_aload_n (n := 41) C dDV_make_40 rfl rfl ?_
      refine r_get (ci := 9) (n := 44) C hinDV rfl 5 (by decide) tw_71 rfl dDV_make_41 rfl hx2 rfl ?_
      refine r_iload_n (n := 45) C dDV_make_44 rfl rfl ?_
      refine r_iconst (v := 0) (n := 46) C dDV_make_45 rfl (by decide) ?_
      refine r_iast (n := 47) C dDV_make_46 rfl hch S.2.2.2.length rfl (by omega) (by omega) ?_
      have hd3 := hd2.ch g (upd cf S.2.2.2.length 0)
      have hchx : gch G ≠ x := fun e => by rw [e, hx2] at hch; simp at hch
      generalize eh3 : hu h2 (gch G) _ = h3 at hd3
      have hx3 : h3 x = _ := ((congrFun eh3.symm x).trans (hu_ne _ _ (Ne.symm hchx))).trans hx2
      have hF3 : Frm (ownG G) h h3 := hF2.tr (eh3 ▸ hu_frm.mono (fun q e => Or.inr (Or.inr (Or.inr (Or.inl e)))))
      refine r_aload_n (n := 48) C dDV_make_47 rfl rfl ?_
      refine r_dup (n := 49) C dDV_make_48 rfl rfl ?_
      refine r_get (ci := 9) (n := 52) C hinDV rfl 6 (by decide) tw_72 rfl dDV_make_49 rfl hx3 rfl ?_
      refine r_iconst (v := 1) (n := 53) C dDV_make_52 rfl (by decide) ?_
      refine r_iadd (n := 54) C dDV_make_53 rfl ?_
      refine V.eqi (nI_1 _) ?_
      refine r_put (ci := 9) (n := 57) C hinDV tyDV okDV nmDV rfl 6 (by decide) tw_72 rfl rfl (okDV 6 (by decide)) rfl rfl dDV_make_54 rfl hx3 (Nat.le_of_ble_eq_true rfl) ?_
      have hd4 := hd3.own9 hx3 (.inr (9, [.ref (gnw G), .ref (gnx G), .ref (gwk G).1, .ref (gP G).1, .ref (gru G), .ref (gch G), .int (nI (S.2.2.2.length + 1))]))
      refine r_iload_n (n := 58) C dDV_make_57 rfl rfl ?_
      exact r_iret C dDV_make_58 (Nat.le_refl _) (Nat.le_refl _) ⟨by unfold mkS; rw [hz]; rfl, by
            unfold mkS; rw [hz]
            refine ⟨G, ⟨g, ?_, ?_, _, Ns, _, _, _, hd4, updL_srt hsL (nz_srt (hrc ▸ rfill_srt hok (by omega) (by omega) hsL)), hsN, fun i hi => ?_, fun j hj => ?_⟩, fun _ h => h, hF3.x.tr (hu_frm.mono (fun q e => Or.inl e))⟩
            · show hu h3 x _ x = _
              rw [hu_eq]
              simp only [if_pos]
              rw [List.length_append]; rfl
            · simp only [if_pos]; rw [List.length_append]; exact hnd
            · simp only [if_pos] at hi ⊢
              rw [List.length_append] at hi
              unfold updL
              by_cases e : i = 3 + S.2.2.2.length
              · rw [if_pos e, if_pos e]
              · rw [if_neg e, if_neg e]
                exact hag i (by simp at hi; omega)
            · simp only [if_pos] at hj ⊢
              rw [List.length_append] at hj
              by_cases e : j = S.2.2.2.length
              · subst e; rw [pk_us, pk_us]
              · rw [pk_un e, pk_un e]
                exact hcf j (by simp at hj; omega)⟩
    · have hz0 : fitB 24 (nz (rfill R S.1)) = false := b01_f c_22
      have hz : mkOK R S = false := by unfold mkOK; rw [hz0, Bool.and_false]
      rw [hz0] at hd1
      refine r_bipush (v := -2) (n := 27) C dDV_make_25 rfl (by decide) ?_
      exact r_iret C dDV_make_27 (Nat.le_refl _) (Nat.le_refl _) ⟨by unfold mkS; rw [hz]; rfl, by unfold mkS; rw [hz]; exact ⟨G, ⟨g, hx1, hn, Ls, Ns, _, rf, cf, hd1, hsL, hsN, hag, hcf⟩, fun _ h => h, hF1.x⟩⟩
end
